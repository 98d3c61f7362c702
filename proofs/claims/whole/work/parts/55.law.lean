/-! the law's loop -/
def sv (K : aK) (i : Nat) : Int32 := nI (K.2.2.2 (6 + (nI i).toNatClampNeg))
theorem lim8 {n i : Nat} (hn : n < 2 ^ 30) (hi : i < 2 ^ 30) : nI n - 8 < nI i ↔ n < i + 8 := by
  by_cases h : 8 ≤ n
  · have e : nI n - 8 = nI (n - 8) := by
      have e1 : nI (n - 8) + 8 = nI n := by
        have e2 := nI_add (n - 8) 8
        rw [show n - 8 + 8 = n by omega] at e2
        exact e2
      rw [← e1, Int32.add_sub_cancel]
    rw [e, nI_ltI (by omega) (by omega)]
    omega
  · rw [Int32.lt_iff_toInt_lt, nI_toInt (n := i) (by omega)]
    have e : (nI n - 8).toInt < 0 := by
      rcases (show n = 0 ∨ n = 1 ∨ n = 2 ∨ n = 3 ∨ n = 4 ∨ n = 5 ∨ n = 6 ∨ n = 7 by omega) with rfl | rfl | rfl | rfl | rfl | rfl | rfl | rfl <;> decide
    constructor
    · intro; omega
    · intro; omega
abbrev mL_law (nm : String) : aY := (⟨RL, nm, "([I)Z"⟩, code, 4, ret)
section LAW
variable {l : Launch} {K : aK} {d : Nat} {Q : Option Value → aE → aM → Prop} {nm : String}
set_option maxHeartbeats 4000000 in
theorem law_loop (hd : 147 ≤ d) (hn : K.2.2.2 5 ≤ 4096) (hQ : ∀ M' : aM, Q (some (.int 1)) EE M') : ∀ (f i : Nat) (g : gS) (M : aM), K.2.2.2 5 ≤ i + 8 * f → i ≤ K.2.2.2 5 → okG g → xG g M → yG g M → aw l K (mL_law nm) d 0 0 18 [.ref 1000004, .ref 0, .ref 164, .int (nI i)] [] EE M Q := by
  intro f
  induction f with
  | zero =>
    intro i g M h1 h2 hg hX hY
    refine aw_iload_n (n := 19) dL_law_18 rfl rfl ?_
    refine aw_aload_n (n := 20) dL_law_19 rfl rfl ?_
    refine aw_slen (n := 21) dL_law_20 rfl ?_
    refine aw_bipush (n := 23) (v := 8) dL_law_21 (by decide) rfl ?_
    refine aw_isub (n := 24) dL_law_23 rfl ?_
    refine aw_icmp_gt (tg := 508) (n := 27) dL_law_24 (by decide) rfl (fun c_24 => ?_) (fun c_24 => by exact absurd ((lim8 (by omega) (by omega)).mpr (by omega)) c_24)
    refine aw_iconst (n := 509) (v := 1) dL_law_508 (by decide) rfl ?_
    refine aw_zret dL_law_509 rfl (by first | exact Or.inl rfl | exact Or.inr rfl | assumption) ?_
    exact hQ M
  | succ f ih =>
    intro i g M h1 h2 hg hX hY
    by_cases hlt : K.2.2.2 5 < i + 8
    · refine aw_iload_n (n := 19) dL_law_18 rfl rfl ?_
      refine aw_aload_n (n := 20) dL_law_19 rfl rfl ?_
      refine aw_slen (n := 21) dL_law_20 rfl ?_
      refine aw_bipush (n := 23) (v := 8) dL_law_21 (by decide) rfl ?_
      refine aw_isub (n := 24) dL_law_23 rfl ?_
      refine aw_icmp_gt (tg := 508) (n := 27) dL_law_24 (by decide) rfl (fun c_24 => ?_) (fun c_24 => by exact absurd ((lim8 (by omega) (by omega)).mpr hlt) c_24)
      refine aw_iconst (n := 509) (v := 1) dL_law_508 (by decide) rfl ?_
      refine aw_zret dL_law_509 rfl (by first | exact Or.inl rfl | exact Or.inr rfl | assumption) ?_
      exact hQ M
    have e8 : nI i + 8 = nI (i + 8) := nI_add i 8
    have hin : ∀ k, k < 8 → vp_in (nI (i + k)) (K.2.2.2 5) := fun k hk => vp_in_nI (by omega) (by omega)
    have nx : ∀ (g : gS) (M : aM), okG g → xG g M → yG g M → aw l K (mL_law nm) d 0 0 502 [.ref 1000004, .ref 0, .ref 164, .int (nI i)] [] EE M Q := by
      intro g M hg hX hY
      refine aw_iinc (n := 505) (v := _ + (8)) (L' := [_, _, _, _]) dL_law_502 rfl rfl rfl rfl ?_
      refine aw_goto (n := 18) dL_law_505 (by decide) ?_
      rw [e8]; exact ih (i + 8) g M (by omega) (by omega) hg hX hY
    have e1 : nI i + 1 = nI (i + 1) := nI_add i 1
    have e2 : nI i + 2 = nI (i + 2) := nI_add i 2
    have e3 : nI i + 3 = nI (i + 3) := nI_add i 3
    have e4 : nI i + 4 = nI (i + 4) := nI_add i 4
    have e5 : nI i + 5 = nI (i + 5) := nI_add i 5
    have e6 : nI i + 6 = nI (i + 6) := nI_add i 6
    have e7 : nI i + 7 = nI (i + 7) := nI_add i 7
    refine aw_iload_n (n := 19) dL_law_18 rfl rfl ?_
    refine aw_aload_n (n := 20) dL_law_19 rfl rfl ?_
    refine aw_slen (n := 21) dL_law_20 rfl ?_
    refine aw_bipush (n := 23) (v := 8) dL_law_21 (by decide) rfl ?_
    refine aw_isub (n := 24) dL_law_23 rfl ?_
    refine aw_icmp_gt (tg := 508) (n := 27) dL_law_24 (by decide) rfl (fun c_24 => by exact absurd ((lim8 (by omega) (by omega)).mp c_24) hlt) (fun c_24 => ?_)
    refine aw_aload_n (n := 28) dL_law_27 rfl rfl ?_
    refine aw_iload_n (n := 29) dL_law_28 rfl rfl ?_
    refine aw_sld (n := 30) dL_law_29 (hin 0 (by decide)) rfl ?_
    refine aw_bipush (n := 32) (v := 15) dL_law_30 (by decide) rfl ?_
    refine aw_iand (n := 33) dL_law_32 rfl ?_
    obtain ⟨v, hv⟩ : ∃ v : Int32, v = nI (K.2.2.2 (6 + (nI i).toNatClampNeg)) &&& 15 := ⟨_, rfl⟩
    rw [← hv]
    by_cases hb : v < 0 ∨ 10 ≤ v
    · have hx : v.toInt < 0 ∨ 10 ≤ v.toInt := hb.elim (fun q => Or.inl (by rw [Int32.lt_iff_toInt_lt, ti_0] at q; exact q)) (fun q => Or.inr (by rw [Int32.le_iff_toInt_le] at q; exact q))
      refine aw_tswOut (n := 502) dL_law_33 (by omega) (by decide) ?_
      exact nx g M hg hX hY
    · obtain ⟨j, hj, hvj⟩ := vp_lt (k := v) (n := 10) (by decide) (fun q => hb (Or.inl q)) (fun q => hb (Or.inr q))
      rw [hvj]
      clear hv hvj hb
      rcases (show j = 0 ∨ j = 1 ∨ j = 2 ∨ j = 3 ∨ j = 4 ∨ j = 5 ∨ j = 6 ∨ j = 7 ∨ j = 8 ∨ j = 9 by omega) with rfl | rfl | rfl | rfl | rfl | rfl | rfl | rfl | rfl | rfl
      · obtain ⟨a, g1, hg1, hx, hy⟩ := two_term (l := l) (K := K) hg (sv K (i + 1)) (sv K (i + 2)) (sv K (i + 3)) (sv K (i + 4)) (sv K (i + 5))
        refine aw_tswIn (n := 88) (off := 55) dL_law_33 (by decide) (by decide) (by decide) (by decide) ?_
        refine aw_aload_n (n := 89) dL_law_88 rfl rfl ?_
        refine aw_aload_n (n := 90) dL_law_89 rfl rfl ?_
        refine aw_iload_n (n := 91) dL_law_90 rfl rfl ?_
        refine aw_iconst (n := 92) (v := 1) dL_law_91 (by decide) rfl ?_
        refine aw_iadd (n := 93) dL_law_92 rfl ?_
        rw [e1]
        refine aw_sld (n := 94) dL_law_93 (hin 1 (by decide)) rfl ?_
        refine aw_aload_n (n := 95) dL_law_94 rfl rfl ?_
        refine aw_iload_n (n := 96) dL_law_95 rfl rfl ?_
        refine aw_iconst (n := 97) (v := 2) dL_law_96 (by decide) rfl ?_
        refine aw_iadd (n := 98) dL_law_97 rfl ?_
        rw [e2]
        refine aw_sld (n := 99) dL_law_98 (hin 2 (by decide)) rfl ?_
        refine aw_aload_n (n := 100) dL_law_99 rfl rfl ?_
        refine aw_iload_n (n := 101) dL_law_100 rfl rfl ?_
        refine aw_iconst (n := 102) (v := 3) dL_law_101 (by decide) rfl ?_
        refine aw_iadd (n := 103) dL_law_102 rfl ?_
        rw [e3]
        refine aw_sld (n := 104) dL_law_103 (hin 3 (by decide)) rfl ?_
        refine aw_aload_n (n := 105) dL_law_104 rfl rfl ?_
        refine aw_iload_n (n := 106) dL_law_105 rfl rfl ?_
        refine aw_iconst (n := 107) (v := 4) dL_law_106 (by decide) rfl ?_
        refine aw_iadd (n := 108) dL_law_107 rfl ?_
        rw [e4]
        refine aw_sld (n := 109) dL_law_108 (hin 4 (by decide)) rfl ?_
        refine aw_aload_n (n := 110) dL_law_109 rfl rfl ?_
        refine aw_iload_n (n := 111) dL_law_110 rfl rfl ?_
        refine aw_iconst (n := 112) (v := 5) dL_law_111 (by decide) rfl ?_
        refine aw_iadd (n := 113) dL_law_112 rfl ?_
        rw [e5]
        refine aw_sld (n := 114) dL_law_113 (hin 5 (by decide)) rfl ?_
        refine aw_v5 (d1 := d - 1) (n := 117) (Z := mX7_term) (ci := 5) (L0 := [_, _, _, _, _, _]) dL_law_114 kX7_term gL_13 iyX7_term eyX7_term rfl rfl E_0 rfl rfl rfl rfl rfl (Nat.le_of_ble_eq_true rfl) rfl rfl (by omega) (Nat.le_of_ble_eq_true rfl) (hx _ _ _ (by omega) hX (fun M1 x1 f1 => ?_))
        dsimp only [aPush]
        refine aw_aload_n (n := 118) dL_law_117 rfl rfl ?_
        refine aw_aload_n (n := 119) dL_law_118 rfl rfl ?_
        refine aw_iload_n (n := 120) dL_law_119 rfl rfl ?_
        refine aw_iconst (n := 121) (v := 1) dL_law_120 (by decide) rfl ?_
        refine aw_iadd (n := 122) dL_law_121 rfl ?_
        rw [e1]
        refine aw_sld (n := 123) dL_law_122 (hin 1 (by decide)) rfl ?_
        refine aw_aload_n (n := 124) dL_law_123 rfl rfl ?_
        refine aw_iload_n (n := 125) dL_law_124 rfl rfl ?_
        refine aw_iconst (n := 126) (v := 2) dL_law_125 (by decide) rfl ?_
        refine aw_iadd (n := 127) dL_law_126 rfl ?_
        rw [e2]
        refine aw_sld (n := 128) dL_law_127 (hin 2 (by decide)) rfl ?_
        refine aw_aload_n (n := 129) dL_law_128 rfl rfl ?_
        refine aw_iload_n (n := 130) dL_law_129 rfl rfl ?_
        refine aw_iconst (n := 131) (v := 3) dL_law_130 (by decide) rfl ?_
        refine aw_iadd (n := 132) dL_law_131 rfl ?_
        rw [e3]
        refine aw_sld (n := 133) dL_law_132 (hin 3 (by decide)) rfl ?_
        refine aw_aload_n (n := 134) dL_law_133 rfl rfl ?_
        refine aw_iload_n (n := 135) dL_law_134 rfl rfl ?_
        refine aw_iconst (n := 136) (v := 4) dL_law_135 (by decide) rfl ?_
        refine aw_iadd (n := 137) dL_law_136 rfl ?_
        rw [e4]
        refine aw_sld (n := 138) dL_law_137 (hin 4 (by decide)) rfl ?_
        refine aw_aload_n (n := 139) dL_law_138 rfl rfl ?_
        refine aw_iload_n (n := 140) dL_law_139 rfl rfl ?_
        refine aw_iconst (n := 141) (v := 5) dL_law_140 (by decide) rfl ?_
        refine aw_iadd (n := 142) dL_law_141 rfl ?_
        rw [e5]
        refine aw_sld (n := 143) dL_law_142 (hin 5 (by decide)) rfl ?_
        refine aw_v5 (d1 := d - 1) (n := 146) (Z := mX8_term) (ci := 6) (L0 := [_, _, _, _, _, _]) dL_law_143 kX8_term gL_17 iyX8_term eyX8_term rfl rfl E_164 rfl rfl rfl rfl rfl (Nat.le_of_ble_eq_true rfl) rfl rfl (by omega) (Nat.le_of_ble_eq_true rfl) (hy _ _ _ (by omega) (yG_hi hY f1) (fun M2 y2 f2 => ?_))
        dsimp only [aPush]
        refine aw_icmp_eq (tg := 502) (n := 149) dL_law_146 (by decide) rfl (fun c_146 => ?_) (fun c_146 => by exact absurd rfl c_146)
        exact nx g1 M2 hg1 (xG_lo hg1 x1 f2) y2
      · obtain ⟨a, g1, hg1, hx, hy⟩ := two_property (l := l) (K := K) hg (fun k => sv K (i + 1 + k))
        refine aw_tswIn (n := 151) (off := 118) dL_law_33 (by decide) (by decide) (by decide) (by decide) ?_
        refine aw_aload_n (n := 152) dL_law_151 rfl rfl ?_
        refine aw_aload_n (n := 153) dL_law_152 rfl rfl ?_
        refine aw_iload_n (n := 154) dL_law_153 rfl rfl ?_
        refine aw_iconst (n := 155) (v := 1) dL_law_154 (by decide) rfl ?_
        refine aw_iadd (n := 156) dL_law_155 rfl ?_
        rw [e1]
        refine aw_sld (n := 157) dL_law_156 (hin 1 (by decide)) rfl ?_
        refine aw_aload_n (n := 158) dL_law_157 rfl rfl ?_
        refine aw_iload_n (n := 159) dL_law_158 rfl rfl ?_
        refine aw_iconst (n := 160) (v := 2) dL_law_159 (by decide) rfl ?_
        refine aw_iadd (n := 161) dL_law_160 rfl ?_
        rw [e2]
        refine aw_sld (n := 162) dL_law_161 (hin 2 (by decide)) rfl ?_
        refine aw_aload_n (n := 163) dL_law_162 rfl rfl ?_
        refine aw_iload_n (n := 164) dL_law_163 rfl rfl ?_
        refine aw_iconst (n := 165) (v := 3) dL_law_164 (by decide) rfl ?_
        refine aw_iadd (n := 166) dL_law_165 rfl ?_
        rw [e3]
        refine aw_sld (n := 167) dL_law_166 (hin 3 (by decide)) rfl ?_
        refine aw_aload_n (n := 168) dL_law_167 rfl rfl ?_
        refine aw_iload_n (n := 169) dL_law_168 rfl rfl ?_
        refine aw_iconst (n := 170) (v := 4) dL_law_169 (by decide) rfl ?_
        refine aw_iadd (n := 171) dL_law_170 rfl ?_
        rw [e4]
        refine aw_sld (n := 172) dL_law_171 (hin 4 (by decide)) rfl ?_
        refine aw_aload_n (n := 173) dL_law_172 rfl rfl ?_
        refine aw_iload_n (n := 174) dL_law_173 rfl rfl ?_
        refine aw_iconst (n := 175) (v := 5) dL_law_174 (by decide) rfl ?_
        refine aw_iadd (n := 176) dL_law_175 rfl ?_
        rw [e5]
        refine aw_sld (n := 177) dL_law_176 (hin 5 (by decide)) rfl ?_
        refine aw_aload_n (n := 178) dL_law_177 rfl rfl ?_
        refine aw_iload_n (n := 179) dL_law_178 rfl rfl ?_
        refine aw_bipush (n := 181) (v := 6) dL_law_179 (by decide) rfl ?_
        refine aw_iadd (n := 182) dL_law_181 rfl ?_
        rw [e6]
        refine aw_sld (n := 183) dL_law_182 (hin 6 (by decide)) rfl ?_
        refine aw_aload_n (n := 184) dL_law_183 rfl rfl ?_
        refine aw_iload_n (n := 185) dL_law_184 rfl rfl ?_
        refine aw_bipush (n := 187) (v := 7) dL_law_185 (by decide) rfl ?_
        refine aw_iadd (n := 188) dL_law_187 rfl ?_
        rw [e7]
        refine aw_sld (n := 189) dL_law_188 (hin 7 (by decide)) rfl ?_
        refine aw_v7 (d1 := d - 1) (n := 192) (Z := mX7_property) (ci := 5) (L0 := [_, _, _, _, _, _, _, _, .null]) dL_law_189 kX7_property gL_18 iyX7_property eyX7_property rfl rfl E_0 rfl rfl rfl rfl rfl rfl rfl (Nat.le_of_ble_eq_true rfl) rfl rfl (by omega) (Nat.le_of_ble_eq_true rfl) (hx _ _ _ (by omega) hX (fun M1 x1 f1 => ?_))
        dsimp only [aPush]
        refine aw_aload_n (n := 193) dL_law_192 rfl rfl ?_
        refine aw_aload_n (n := 194) dL_law_193 rfl rfl ?_
        refine aw_iload_n (n := 195) dL_law_194 rfl rfl ?_
        refine aw_iconst (n := 196) (v := 1) dL_law_195 (by decide) rfl ?_
        refine aw_iadd (n := 197) dL_law_196 rfl ?_
        rw [e1]
        refine aw_sld (n := 198) dL_law_197 (hin 1 (by decide)) rfl ?_
        refine aw_aload_n (n := 199) dL_law_198 rfl rfl ?_
        refine aw_iload_n (n := 200) dL_law_199 rfl rfl ?_
        refine aw_iconst (n := 201) (v := 2) dL_law_200 (by decide) rfl ?_
        refine aw_iadd (n := 202) dL_law_201 rfl ?_
        rw [e2]
        refine aw_sld (n := 203) dL_law_202 (hin 2 (by decide)) rfl ?_
        refine aw_aload_n (n := 204) dL_law_203 rfl rfl ?_
        refine aw_iload_n (n := 205) dL_law_204 rfl rfl ?_
        refine aw_iconst (n := 206) (v := 3) dL_law_205 (by decide) rfl ?_
        refine aw_iadd (n := 207) dL_law_206 rfl ?_
        rw [e3]
        refine aw_sld (n := 208) dL_law_207 (hin 3 (by decide)) rfl ?_
        refine aw_aload_n (n := 209) dL_law_208 rfl rfl ?_
        refine aw_iload_n (n := 210) dL_law_209 rfl rfl ?_
        refine aw_iconst (n := 211) (v := 4) dL_law_210 (by decide) rfl ?_
        refine aw_iadd (n := 212) dL_law_211 rfl ?_
        rw [e4]
        refine aw_sld (n := 213) dL_law_212 (hin 4 (by decide)) rfl ?_
        refine aw_aload_n (n := 214) dL_law_213 rfl rfl ?_
        refine aw_iload_n (n := 215) dL_law_214 rfl rfl ?_
        refine aw_iconst (n := 216) (v := 5) dL_law_215 (by decide) rfl ?_
        refine aw_iadd (n := 217) dL_law_216 rfl ?_
        rw [e5]
        refine aw_sld (n := 218) dL_law_217 (hin 5 (by decide)) rfl ?_
        refine aw_aload_n (n := 219) dL_law_218 rfl rfl ?_
        refine aw_iload_n (n := 220) dL_law_219 rfl rfl ?_
        refine aw_bipush (n := 222) (v := 6) dL_law_220 (by decide) rfl ?_
        refine aw_iadd (n := 223) dL_law_222 rfl ?_
        rw [e6]
        refine aw_sld (n := 224) dL_law_223 (hin 6 (by decide)) rfl ?_
        refine aw_aload_n (n := 225) dL_law_224 rfl rfl ?_
        refine aw_iload_n (n := 226) dL_law_225 rfl rfl ?_
        refine aw_bipush (n := 228) (v := 7) dL_law_226 (by decide) rfl ?_
        refine aw_iadd (n := 229) dL_law_228 rfl ?_
        rw [e7]
        refine aw_sld (n := 230) dL_law_229 (hin 7 (by decide)) rfl ?_
        refine aw_v7 (d1 := d - 1) (n := 233) (Z := mX8_property) (ci := 6) (L0 := [_, _, _, _, _, _, _, _]) dL_law_230 kX8_property gL_22 iyX8_property eyX8_property rfl rfl E_164 rfl rfl rfl rfl rfl rfl rfl (Nat.le_of_ble_eq_true rfl) rfl rfl (by omega) (Nat.le_of_ble_eq_true rfl) (hy _ _ _ (by omega) (yG_hi hY f1) (fun M2 y2 f2 => ?_))
        dsimp only [aPush]
        refine aw_icmp_eq (tg := 502) (n := 236) dL_law_233 (by decide) rfl (fun c_233 => ?_) (fun c_233 => by exact absurd rfl c_233)
        exact nx g1 M2 hg1 (xG_lo hg1 x1 f2) y2
      · obtain ⟨a, g1, hg1, hx, hy⟩ := two_run (l := l) (K := K) hg (sv K (i + 1)) (sv K (i + 2)) (sv K (i + 3))
        refine aw_tswIn (n := 238) (off := 205) dL_law_33 (by decide) (by decide) (by decide) (by decide) ?_
        refine aw_aload_n (n := 239) dL_law_238 rfl rfl ?_
        refine aw_aload_n (n := 240) dL_law_239 rfl rfl ?_
        refine aw_iload_n (n := 241) dL_law_240 rfl rfl ?_
        refine aw_iconst (n := 242) (v := 1) dL_law_241 (by decide) rfl ?_
        refine aw_iadd (n := 243) dL_law_242 rfl ?_
        rw [e1]
        refine aw_sld (n := 244) dL_law_243 (hin 1 (by decide)) rfl ?_
        refine aw_aload_n (n := 245) dL_law_244 rfl rfl ?_
        refine aw_iload_n (n := 246) dL_law_245 rfl rfl ?_
        refine aw_iconst (n := 247) (v := 2) dL_law_246 (by decide) rfl ?_
        refine aw_iadd (n := 248) dL_law_247 rfl ?_
        rw [e2]
        refine aw_sld (n := 249) dL_law_248 (hin 2 (by decide)) rfl ?_
        refine aw_aload_n (n := 250) dL_law_249 rfl rfl ?_
        refine aw_iload_n (n := 251) dL_law_250 rfl rfl ?_
        refine aw_iconst (n := 252) (v := 3) dL_law_251 (by decide) rfl ?_
        refine aw_iadd (n := 253) dL_law_252 rfl ?_
        rw [e3]
        refine aw_sld (n := 254) dL_law_253 (hin 3 (by decide)) rfl ?_
        refine aw_v3 (d1 := d - 1) (n := 257) (Z := mX7_run) (ci := 5) (L0 := [_, _, _, _, .null, .null]) dL_law_254 kX7_run gL_23 iyX7_run eyX7_run rfl rfl E_0 rfl rfl rfl (Nat.le_of_ble_eq_true rfl) rfl rfl (by omega) (Nat.le_of_ble_eq_true rfl) (hx _ _ _ (by omega) hX (fun M1 x1 f1 => ?_))
        dsimp only [aPush]
        refine aw_aload_n (n := 258) dL_law_257 rfl rfl ?_
        refine aw_aload_n (n := 259) dL_law_258 rfl rfl ?_
        refine aw_iload_n (n := 260) dL_law_259 rfl rfl ?_
        refine aw_iconst (n := 261) (v := 1) dL_law_260 (by decide) rfl ?_
        refine aw_iadd (n := 262) dL_law_261 rfl ?_
        rw [e1]
        refine aw_sld (n := 263) dL_law_262 (hin 1 (by decide)) rfl ?_
        refine aw_aload_n (n := 264) dL_law_263 rfl rfl ?_
        refine aw_iload_n (n := 265) dL_law_264 rfl rfl ?_
        refine aw_iconst (n := 266) (v := 2) dL_law_265 (by decide) rfl ?_
        refine aw_iadd (n := 267) dL_law_266 rfl ?_
        rw [e2]
        refine aw_sld (n := 268) dL_law_267 (hin 2 (by decide)) rfl ?_
        refine aw_aload_n (n := 269) dL_law_268 rfl rfl ?_
        refine aw_iload_n (n := 270) dL_law_269 rfl rfl ?_
        refine aw_iconst (n := 271) (v := 3) dL_law_270 (by decide) rfl ?_
        refine aw_iadd (n := 272) dL_law_271 rfl ?_
        rw [e3]
        refine aw_sld (n := 273) dL_law_272 (hin 3 (by decide)) rfl ?_
        refine aw_v3 (d1 := d - 1) (n := 276) (Z := mX8_run) (ci := 6) (L0 := [_, _, _, _, .null, .null, .null, .null]) dL_law_273 kX8_run gL_27 iyX8_run eyX8_run rfl rfl E_164 rfl rfl rfl (Nat.le_of_ble_eq_true rfl) rfl rfl (by omega) (Nat.le_of_ble_eq_true rfl) (hy _ _ _ (by omega) (yG_hi hY f1) (fun M2 y2 f2 => ?_))
        dsimp only [aPush]
        refine aw_icmp_eq (tg := 502) (n := 279) dL_law_276 (by decide) rfl (fun c_276 => ?_) (fun c_276 => by exact absurd rfl c_276)
        exact nx g1 M2 hg1 (xG_lo hg1 x1 f2) y2
      · obtain ⟨a, g1, hg1, hx, hy⟩ := two_small (l := l) (K := K) hg (sv K (i + 1)) (sv K (i + 2))
        refine aw_tswIn (n := 281) (off := 248) dL_law_33 (by decide) (by decide) (by decide) (by decide) ?_
        refine aw_aload_n (n := 282) dL_law_281 rfl rfl ?_
        refine aw_aload_n (n := 283) dL_law_282 rfl rfl ?_
        refine aw_iload_n (n := 284) dL_law_283 rfl rfl ?_
        refine aw_iconst (n := 285) (v := 1) dL_law_284 (by decide) rfl ?_
        refine aw_iadd (n := 286) dL_law_285 rfl ?_
        rw [e1]
        refine aw_sld (n := 287) dL_law_286 (hin 1 (by decide)) rfl ?_
        refine aw_aload_n (n := 288) dL_law_287 rfl rfl ?_
        refine aw_iload_n (n := 289) dL_law_288 rfl rfl ?_
        refine aw_iconst (n := 290) (v := 2) dL_law_289 (by decide) rfl ?_
        refine aw_iadd (n := 291) dL_law_290 rfl ?_
        rw [e2]
        refine aw_sld (n := 292) dL_law_291 (hin 2 (by decide)) rfl ?_
        refine aw_v2 (d1 := d - 1) (n := 295) (Z := mX7_small) (ci := 5) (L0 := [_, _, _, .null, .null]) dL_law_292 kX7_small gL_28 iyX7_small eyX7_small rfl rfl E_0 rfl rfl (Nat.le_of_ble_eq_true rfl) rfl rfl (by omega) (Nat.le_of_ble_eq_true rfl) (hx _ _ _ (by omega) hX (fun M1 x1 f1 => ?_))
        dsimp only [aPush]
        refine aw_aload_n (n := 296) dL_law_295 rfl rfl ?_
        refine aw_aload_n (n := 297) dL_law_296 rfl rfl ?_
        refine aw_iload_n (n := 298) dL_law_297 rfl rfl ?_
        refine aw_iconst (n := 299) (v := 1) dL_law_298 (by decide) rfl ?_
        refine aw_iadd (n := 300) dL_law_299 rfl ?_
        rw [e1]
        refine aw_sld (n := 301) dL_law_300 (hin 1 (by decide)) rfl ?_
        refine aw_aload_n (n := 302) dL_law_301 rfl rfl ?_
        refine aw_iload_n (n := 303) dL_law_302 rfl rfl ?_
        refine aw_iconst (n := 304) (v := 2) dL_law_303 (by decide) rfl ?_
        refine aw_iadd (n := 305) dL_law_304 rfl ?_
        rw [e2]
        refine aw_sld (n := 306) dL_law_305 (hin 2 (by decide)) rfl ?_
        refine aw_v2 (d1 := d - 1) (n := 309) (Z := mX8_small) (ci := 6) (L0 := [_, _, _, .null, .null, .null, .null, .null, .null, .null]) dL_law_306 kX8_small gL_32 iyX8_small eyX8_small rfl rfl E_164 rfl rfl (Nat.le_of_ble_eq_true rfl) rfl rfl (by omega) (Nat.le_of_ble_eq_true rfl) (hy _ _ _ (by omega) (yG_hi hY f1) (fun M2 y2 f2 => ?_))
        dsimp only [aPush]
        refine aw_icmp_eq (tg := 502) (n := 312) dL_law_309 (by decide) rfl (fun c_309 => ?_) (fun c_309 => by exact absurd rfl c_309)
        exact nx g1 M2 hg1 (xG_lo hg1 x1 f2) y2
      · obtain ⟨a, g1, hg1, hx, hy⟩ := two_many (l := l) (K := K) hg (sv K (i + 1)) (sv K (i + 2))
        refine aw_tswIn (n := 314) (off := 281) dL_law_33 (by decide) (by decide) (by decide) (by decide) ?_
        refine aw_aload_n (n := 315) dL_law_314 rfl rfl ?_
        refine aw_aload_n (n := 316) dL_law_315 rfl rfl ?_
        refine aw_iload_n (n := 317) dL_law_316 rfl rfl ?_
        refine aw_iconst (n := 318) (v := 1) dL_law_317 (by decide) rfl ?_
        refine aw_iadd (n := 319) dL_law_318 rfl ?_
        rw [e1]
        refine aw_sld (n := 320) dL_law_319 (hin 1 (by decide)) rfl ?_
        refine aw_aload_n (n := 321) dL_law_320 rfl rfl ?_
        refine aw_iload_n (n := 322) dL_law_321 rfl rfl ?_
        refine aw_iconst (n := 323) (v := 2) dL_law_322 (by decide) rfl ?_
        refine aw_iadd (n := 324) dL_law_323 rfl ?_
        rw [e2]
        refine aw_sld (n := 325) dL_law_324 (hin 2 (by decide)) rfl ?_
        refine aw_v2 (d1 := d - 1) (n := 328) (Z := mX7_many) (ci := 5) (L0 := [_, _, _, .null]) dL_law_325 kX7_many gL_33 iyX7_many eyX7_many rfl rfl E_0 rfl rfl (Nat.le_of_ble_eq_true rfl) rfl rfl (by omega) (Nat.le_of_ble_eq_true rfl) (hx _ _ _ (by omega) hX (fun M1 x1 f1 => ?_))
        dsimp only [aPush]
        refine aw_aload_n (n := 329) dL_law_328 rfl rfl ?_
        refine aw_aload_n (n := 330) dL_law_329 rfl rfl ?_
        refine aw_iload_n (n := 331) dL_law_330 rfl rfl ?_
        refine aw_iconst (n := 332) (v := 1) dL_law_331 (by decide) rfl ?_
        refine aw_iadd (n := 333) dL_law_332 rfl ?_
        rw [e1]
        refine aw_sld (n := 334) dL_law_333 (hin 1 (by decide)) rfl ?_
        refine aw_aload_n (n := 335) dL_law_334 rfl rfl ?_
        refine aw_iload_n (n := 336) dL_law_335 rfl rfl ?_
        refine aw_iconst (n := 337) (v := 2) dL_law_336 (by decide) rfl ?_
        refine aw_iadd (n := 338) dL_law_337 rfl ?_
        rw [e2]
        refine aw_sld (n := 339) dL_law_338 (hin 2 (by decide)) rfl ?_
        refine aw_v2 (d1 := d - 1) (n := 342) (Z := mX8_many) (ci := 6) (L0 := [_, _, _, .null]) dL_law_339 kX8_many gL_36 iyX8_many eyX8_many rfl rfl E_164 rfl rfl (Nat.le_of_ble_eq_true rfl) rfl rfl (by omega) (Nat.le_of_ble_eq_true rfl) (hy _ _ _ (by omega) (yG_hi hY f1) (fun M2 y2 f2 => ?_))
        dsimp only [aPush]
        refine aw_icmp_eq (tg := 502) (n := 345) dL_law_342 (by decide) rfl (fun c_342 => ?_) (fun c_342 => by exact absurd rfl c_342)
        exact nx g1 M2 hg1 (xG_lo hg1 x1 f2) y2
      · obtain ⟨a, g1, hg1, hx, hy⟩ := two_again (l := l) (K := K) hg 
        refine aw_tswIn (n := 347) (off := 314) dL_law_33 (by decide) (by decide) (by decide) (by decide) ?_
        refine aw_aload_n (n := 348) dL_law_347 rfl rfl ?_
        refine aw_v0 (d1 := d - 1) (n := 351) (Z := mX7_again) (ci := 5) (L0 := [_]) dL_law_348 kX7_again gL_37 iyX7_again eyX7_again rfl rfl E_0 (Nat.le_of_ble_eq_true rfl) rfl rfl (by omega) (Nat.le_of_ble_eq_true rfl) (hx _ _ _ (by omega) hX (fun M1 x1 f1 => ?_))
        dsimp only [aPush]
        refine aw_aload_n (n := 352) dL_law_351 rfl rfl ?_
        refine aw_v0 (d1 := d - 1) (n := 355) (Z := mX8_again) (ci := 6) (L0 := [_]) dL_law_352 kX8_again gL_41 iyX8_again eyX8_again rfl rfl E_164 (Nat.le_of_ble_eq_true rfl) rfl rfl (by omega) (Nat.le_of_ble_eq_true rfl) (hy _ _ _ (by omega) (yG_hi hY f1) (fun M2 y2 f2 => ?_))
        dsimp only [aPush]
        refine aw_icmp_eq (tg := 502) (n := 358) dL_law_355 (by decide) rfl (fun c_355 => ?_) (fun c_355 => by exact absurd rfl c_355)
        exact nx g1 M2 hg1 (xG_lo hg1 x1 f2) y2
      · obtain ⟨a, g1, hg1, hx, hy⟩ := two_counter (l := l) (K := K) hg (sv K (i + 1)) (sv K (i + 2))
        refine aw_tswIn (n := 360) (off := 327) dL_law_33 (by decide) (by decide) (by decide) (by decide) ?_
        refine aw_aload_n (n := 361) dL_law_360 rfl rfl ?_
        refine aw_aload_n (n := 362) dL_law_361 rfl rfl ?_
        refine aw_iload_n (n := 363) dL_law_362 rfl rfl ?_
        refine aw_iconst (n := 364) (v := 1) dL_law_363 (by decide) rfl ?_
        refine aw_iadd (n := 365) dL_law_364 rfl ?_
        rw [e1]
        refine aw_sld (n := 366) dL_law_365 (hin 1 (by decide)) rfl ?_
        refine aw_aload_n (n := 367) dL_law_366 rfl rfl ?_
        refine aw_iload_n (n := 368) dL_law_367 rfl rfl ?_
        refine aw_iconst (n := 369) (v := 2) dL_law_368 (by decide) rfl ?_
        refine aw_iadd (n := 370) dL_law_369 rfl ?_
        rw [e2]
        refine aw_sld (n := 371) dL_law_370 (hin 2 (by decide)) rfl ?_
        refine aw_v2 (d1 := d - 1) (n := 374) (Z := mX7_counter) (ci := 5) (L0 := [_, _, _]) dL_law_371 kX7_counter gL_42 iyX7_counter eyX7_counter rfl rfl E_0 rfl rfl (Nat.le_of_ble_eq_true rfl) rfl rfl (by omega) (Nat.le_of_ble_eq_true rfl) (hx _ _ _ (by omega) hX (fun M1 x1 f1 => ?_))
        dsimp only [aPush]
        refine aw_aload_n (n := 375) dL_law_374 rfl rfl ?_
        refine aw_aload_n (n := 376) dL_law_375 rfl rfl ?_
        refine aw_iload_n (n := 377) dL_law_376 rfl rfl ?_
        refine aw_iconst (n := 378) (v := 1) dL_law_377 (by decide) rfl ?_
        refine aw_iadd (n := 379) dL_law_378 rfl ?_
        rw [e1]
        refine aw_sld (n := 380) dL_law_379 (hin 1 (by decide)) rfl ?_
        refine aw_aload_n (n := 381) dL_law_380 rfl rfl ?_
        refine aw_iload_n (n := 382) dL_law_381 rfl rfl ?_
        refine aw_iconst (n := 383) (v := 2) dL_law_382 (by decide) rfl ?_
        refine aw_iadd (n := 384) dL_law_383 rfl ?_
        rw [e2]
        refine aw_sld (n := 385) dL_law_384 (hin 2 (by decide)) rfl ?_
        refine aw_v2 (d1 := d - 1) (n := 388) (Z := mX8_counter) (ci := 6) (L0 := [_, _, _]) dL_law_385 kX8_counter gL_45 iyX8_counter eyX8_counter rfl rfl E_164 rfl rfl (Nat.le_of_ble_eq_true rfl) rfl rfl (by omega) (Nat.le_of_ble_eq_true rfl) (hy _ _ _ (by omega) (yG_hi hY f1) (fun M2 y2 f2 => ?_))
        dsimp only [aPush]
        refine aw_icmp_eq (tg := 502) (n := 391) dL_law_388 (by decide) rfl (fun c_388 => ?_) (fun c_388 => by exact absurd rfl c_388)
        exact nx g1 M2 hg1 (xG_lo hg1 x1 f2) y2
      · obtain ⟨a, g1, hg1, hx, hy⟩ := two_drawn (l := l) (K := K) hg (sv K (i + 1)) (sv K (i + 2)) (sv K (i + 3)) (sv K (i + 4)) (sv K (i + 5))
        refine aw_tswIn (n := 393) (off := 360) dL_law_33 (by decide) (by decide) (by decide) (by decide) ?_
        refine aw_aload_n (n := 394) dL_law_393 rfl rfl ?_
        refine aw_aload_n (n := 395) dL_law_394 rfl rfl ?_
        refine aw_iload_n (n := 396) dL_law_395 rfl rfl ?_
        refine aw_iconst (n := 397) (v := 1) dL_law_396 (by decide) rfl ?_
        refine aw_iadd (n := 398) dL_law_397 rfl ?_
        rw [e1]
        refine aw_sld (n := 399) dL_law_398 (hin 1 (by decide)) rfl ?_
        refine aw_aload_n (n := 400) dL_law_399 rfl rfl ?_
        refine aw_iload_n (n := 401) dL_law_400 rfl rfl ?_
        refine aw_iconst (n := 402) (v := 2) dL_law_401 (by decide) rfl ?_
        refine aw_iadd (n := 403) dL_law_402 rfl ?_
        rw [e2]
        refine aw_sld (n := 404) dL_law_403 (hin 2 (by decide)) rfl ?_
        refine aw_aload_n (n := 405) dL_law_404 rfl rfl ?_
        refine aw_iload_n (n := 406) dL_law_405 rfl rfl ?_
        refine aw_iconst (n := 407) (v := 3) dL_law_406 (by decide) rfl ?_
        refine aw_iadd (n := 408) dL_law_407 rfl ?_
        rw [e3]
        refine aw_sld (n := 409) dL_law_408 (hin 3 (by decide)) rfl ?_
        refine aw_aload_n (n := 410) dL_law_409 rfl rfl ?_
        refine aw_iload_n (n := 411) dL_law_410 rfl rfl ?_
        refine aw_iconst (n := 412) (v := 4) dL_law_411 (by decide) rfl ?_
        refine aw_iadd (n := 413) dL_law_412 rfl ?_
        rw [e4]
        refine aw_sld (n := 414) dL_law_413 (hin 4 (by decide)) rfl ?_
        refine aw_aload_n (n := 415) dL_law_414 rfl rfl ?_
        refine aw_iload_n (n := 416) dL_law_415 rfl rfl ?_
        refine aw_iconst (n := 417) (v := 5) dL_law_416 (by decide) rfl ?_
        refine aw_iadd (n := 418) dL_law_417 rfl ?_
        rw [e5]
        refine aw_sld (n := 419) dL_law_418 (hin 5 (by decide)) rfl ?_
        refine aw_v5 (d1 := d - 1) (n := 422) (Z := mX7_drawn) (ci := 5) (L0 := [_, _, _, _, _, _]) dL_law_419 kX7_drawn gL_46 iyX7_drawn eyX7_drawn rfl rfl E_0 rfl rfl rfl rfl rfl (Nat.le_of_ble_eq_true rfl) rfl rfl (by omega) (Nat.le_of_ble_eq_true rfl) (hx _ _ _ (by omega) hX (fun M1 x1 f1 => ?_))
        dsimp only [aPush]
        refine aw_aload_n (n := 423) dL_law_422 rfl rfl ?_
        refine aw_aload_n (n := 424) dL_law_423 rfl rfl ?_
        refine aw_iload_n (n := 425) dL_law_424 rfl rfl ?_
        refine aw_iconst (n := 426) (v := 1) dL_law_425 (by decide) rfl ?_
        refine aw_iadd (n := 427) dL_law_426 rfl ?_
        rw [e1]
        refine aw_sld (n := 428) dL_law_427 (hin 1 (by decide)) rfl ?_
        refine aw_aload_n (n := 429) dL_law_428 rfl rfl ?_
        refine aw_iload_n (n := 430) dL_law_429 rfl rfl ?_
        refine aw_iconst (n := 431) (v := 2) dL_law_430 (by decide) rfl ?_
        refine aw_iadd (n := 432) dL_law_431 rfl ?_
        rw [e2]
        refine aw_sld (n := 433) dL_law_432 (hin 2 (by decide)) rfl ?_
        refine aw_aload_n (n := 434) dL_law_433 rfl rfl ?_
        refine aw_iload_n (n := 435) dL_law_434 rfl rfl ?_
        refine aw_iconst (n := 436) (v := 3) dL_law_435 (by decide) rfl ?_
        refine aw_iadd (n := 437) dL_law_436 rfl ?_
        rw [e3]
        refine aw_sld (n := 438) dL_law_437 (hin 3 (by decide)) rfl ?_
        refine aw_aload_n (n := 439) dL_law_438 rfl rfl ?_
        refine aw_iload_n (n := 440) dL_law_439 rfl rfl ?_
        refine aw_iconst (n := 441) (v := 4) dL_law_440 (by decide) rfl ?_
        refine aw_iadd (n := 442) dL_law_441 rfl ?_
        rw [e4]
        refine aw_sld (n := 443) dL_law_442 (hin 4 (by decide)) rfl ?_
        refine aw_aload_n (n := 444) dL_law_443 rfl rfl ?_
        refine aw_iload_n (n := 445) dL_law_444 rfl rfl ?_
        refine aw_iconst (n := 446) (v := 5) dL_law_445 (by decide) rfl ?_
        refine aw_iadd (n := 447) dL_law_446 rfl ?_
        rw [e5]
        refine aw_sld (n := 448) dL_law_447 (hin 5 (by decide)) rfl ?_
        refine aw_v5 (d1 := d - 1) (n := 451) (Z := mX8_drawn) (ci := 6) (L0 := [_, _, _, _, _, _]) dL_law_448 kX8_drawn gL_49 iyX8_drawn eyX8_drawn rfl rfl E_164 rfl rfl rfl rfl rfl (Nat.le_of_ble_eq_true rfl) rfl rfl (by omega) (Nat.le_of_ble_eq_true rfl) (hy _ _ _ (by omega) (yG_hi hY f1) (fun M2 y2 f2 => ?_))
        dsimp only [aPush]
        refine aw_icmp_eq (tg := 502) (n := 454) dL_law_451 (by decide) rfl (fun c_451 => ?_) (fun c_451 => by exact absurd rfl c_451)
        exact nx g1 M2 hg1 (xG_lo hg1 x1 f2) y2
      · obtain ⟨a, g1, hg1, hx, hy⟩ := two_told (l := l) (K := K) hg (sv K (i + 1))
        refine aw_tswIn (n := 456) (off := 423) dL_law_33 (by decide) (by decide) (by decide) (by decide) ?_
        refine aw_aload_n (n := 457) dL_law_456 rfl rfl ?_
        refine aw_aload_n (n := 458) dL_law_457 rfl rfl ?_
        refine aw_iload_n (n := 459) dL_law_458 rfl rfl ?_
        refine aw_iconst (n := 460) (v := 1) dL_law_459 (by decide) rfl ?_
        refine aw_iadd (n := 461) dL_law_460 rfl ?_
        rw [e1]
        refine aw_sld (n := 462) dL_law_461 (hin 1 (by decide)) rfl ?_
        refine aw_v1 (d1 := d - 1) (n := 465) (Z := mX7_told) (ci := 5) (L0 := [_, _]) dL_law_462 kX7_told gL_50 iyX7_told eyX7_told rfl rfl E_0 rfl (Nat.le_of_ble_eq_true rfl) rfl rfl (by omega) (Nat.le_of_ble_eq_true rfl) (hx _ _ _ (by omega) hX (fun M1 x1 f1 => ?_))
        dsimp only [aPush]
        refine aw_aload_n (n := 466) dL_law_465 rfl rfl ?_
        refine aw_aload_n (n := 467) dL_law_466 rfl rfl ?_
        refine aw_iload_n (n := 468) dL_law_467 rfl rfl ?_
        refine aw_iconst (n := 469) (v := 1) dL_law_468 (by decide) rfl ?_
        refine aw_iadd (n := 470) dL_law_469 rfl ?_
        rw [e1]
        refine aw_sld (n := 471) dL_law_470 (hin 1 (by decide)) rfl ?_
        refine aw_v1 (d1 := d - 1) (n := 474) (Z := mX8_told) (ci := 6) (L0 := [_, _]) dL_law_471 kX8_told gL_54 iyX8_told eyX8_told rfl rfl E_164 rfl (Nat.le_of_ble_eq_true rfl) rfl rfl (by omega) (Nat.le_of_ble_eq_true rfl) (hy _ _ _ (by omega) (yG_hi hY f1) (fun M2 y2 f2 => ?_))
        dsimp only [aPush]
        refine aw_icmp_eq (tg := 502) (n := 477) dL_law_474 (by decide) rfl (fun c_474 => ?_) (fun c_474 => by exact absurd rfl c_474)
        exact nx g1 M2 hg1 (xG_lo hg1 x1 f2) y2
      · obtain ⟨a, g1, hg1, hx, hy⟩ := two_label (l := l) (K := K) hg (sv K (i + 1))
        refine aw_tswIn (n := 479) (off := 446) dL_law_33 (by decide) (by decide) (by decide) (by decide) ?_
        refine aw_aload_n (n := 480) dL_law_479 rfl rfl ?_
        refine aw_aload_n (n := 481) dL_law_480 rfl rfl ?_
        refine aw_iload_n (n := 482) dL_law_481 rfl rfl ?_
        refine aw_iconst (n := 483) (v := 1) dL_law_482 (by decide) rfl ?_
        refine aw_iadd (n := 484) dL_law_483 rfl ?_
        rw [e1]
        refine aw_sld (n := 485) dL_law_484 (hin 1 (by decide)) rfl ?_
        refine aw_v1 (d1 := d - 1) (n := 488) (Z := mX7_label) (ci := 5) (L0 := [_, _]) dL_law_485 kX7_label gL_55 iyX7_label eyX7_label rfl rfl E_0 rfl (Nat.le_of_ble_eq_true rfl) rfl rfl (by omega) (Nat.le_of_ble_eq_true rfl) (hx _ _ _ (by omega) hX (fun M1 x1 f1 => ?_))
        dsimp only [aPush]
        refine aw_aload_n (n := 489) dL_law_488 rfl rfl ?_
        refine aw_aload_n (n := 490) dL_law_489 rfl rfl ?_
        refine aw_iload_n (n := 491) dL_law_490 rfl rfl ?_
        refine aw_iconst (n := 492) (v := 1) dL_law_491 (by decide) rfl ?_
        refine aw_iadd (n := 493) dL_law_492 rfl ?_
        rw [e1]
        refine aw_sld (n := 494) dL_law_493 (hin 1 (by decide)) rfl ?_
        refine aw_v1 (d1 := d - 1) (n := 497) (Z := mX8_label) (ci := 6) (L0 := [_, _]) dL_law_494 kX8_label gL_58 iyX8_label eyX8_label rfl rfl E_164 rfl (Nat.le_of_ble_eq_true rfl) rfl rfl (by omega) (Nat.le_of_ble_eq_true rfl) (hy _ _ _ (by omega) (yG_hi hY f1) (fun M2 y2 f2 => ?_))
        dsimp only [aPush]
        refine aw_icmp_eq (tg := 502) (n := 500) dL_law_497 (by decide) rfl (fun c_497 => ?_) (fun c_497 => by exact absurd rfl c_497)
        exact nx g1 M2 hg1 (xG_lo hg1 x1 f2) y2
theorem okG_0 : okG (0, fun _ _ => 0, 0, fun _ _ => 0, rS0 0 (fun _ => none)) :=
  ⟨⟨by decide, fun t ht => absurd ht (Nat.not_lt_zero t), by decide, fun k hk => absurd hk (Nat.not_lt_zero k)⟩, by show (0 : Nat) ≤ 3000; decide, Or.inl rfl, Or.inl (by show (-1 : Int32) < 0; decide)⟩
theorem law_all {M : aM} (hd : 147 ≤ d) (hn : K.2.2.2 5 ≤ 4096) (hQ : ∀ M' : aM, Q (some (.int 1)) EE M') : aw l K (mL_law nm) d 190 4061 0 [.ref 1000004, .null, .null, .null] [] [] M Q := by
  refine aw_new (n := 3) (N := 9) dL_law_0 wL_7 (by decide) rfl ?_
  refine aw_stE (st' := [.ref 0]) (E' := [pT0]) rfl rfl ?_
  refine aw_dup (n := 4) dL_law_3 rfl rfl ?_
  refine aw_c0 (d1 := d - 1) (n := 7) (Z := mX7_init) (L0 := [_, .null]) (kc1 := 163) (kc2 := 26) (ks1 := 1807) (ks2 := 2245) dL_law_4 kX7_init gL_9 rfl rfl iyX7_init (Nat.le_of_ble_eq_true rfl) rfl rfl (by omega) (Nat.le_of_ble_eq_true rfl) (by omega) (by omega) (c_class (by omega) (fun M1 x1 => ?_))
  dsimp only [aPush]
  refine aw_astore_n (n := 8) (L' := [_, _, _, _]) dL_law_7 (Nat.le_of_ble_eq_true rfl) rfl rfl ?_
  refine aw_new (n := 11) (N := 45) dL_law_8 wL_10 (by decide +kernel) rfl ?_
  refine aw_top (r' := 164) (by decide +kernel) ?_
  rw [show (EE.take 164).length = 164 from by decide +kernel]
  refine aw_dup (n := 12) dL_law_11 rfl rfl ?_
  refine aw_c0 (d1 := d - 1) (n := 15) (Z := mX8_init) (L0 := [_, .null]) (kc1 := 25) (kc2 := 0) (ks1 := 2200) (ks2 := 0) dL_law_12 kX8_init gL_12 rfl rfl iyX8_init (Nat.le_of_ble_eq_true rfl) rfl rfl (by omega) (Nat.le_of_ble_eq_true rfl) (by omega) (by omega) (c_model (by omega) okG_0 (xG_mv okG_0 x1 (fun q hq _ _ => aClr_n _ (by omega))) (fun j => by rw [aClr_s]) (fun M2 x2 y2 => ?_))
  dsimp only [aPush]
  refine aw_astore_n (n := 16) (L' := [_, _, _, _]) dL_law_15 (Nat.le_of_ble_eq_true rfl) rfl rfl ?_
  refine aw_iconst (n := 17) (v := 0) dL_law_16 (by decide) rfl ?_
  refine aw_istore_n (n := 18) (L' := [_, _, _, _]) dL_law_17 (Nat.le_of_ble_eq_true rfl) rfl rfl ?_
  exact law_loop hd hn hQ 512 0 _ M2 (by omega) (by omega) okG_0 x2 y2
end LAW
