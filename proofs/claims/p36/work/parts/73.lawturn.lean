/-! the law: one turn -/
theorem sub_bd {k M : Nat} (hM : M ≤ 60) (hk : k < 2 * M + 1) : -60 ≤ nI k - nI M ∧ nI k - nI M ≤ 60 := by
  have e : (nI k - nI M : Int32).toInt = (k : Int) - M := pk_sub_toInt (by omega) (by omega)
  have z1 : (-60 : Int32).toInt = -60 := rfl
  have z2 : (60 : Int32).toInt = 60 := rfl
  exact ⟨Int32.le_iff_toInt_le.mpr (by rw [e, z1]; omega), Int32.le_iff_toInt_le.mpr (by rw [e, z2]; omega)⟩
theorem mhMeR_t {a : Nat} {g : mhSg} (h : nI g.2.2.2.1 = nI (a + 1)) : mhMeR a g = g.2.2.2.2.2.1 := if_pos h
theorem mhMeR_f {a : Nat} {g : mhSg} (h : ¬ nI g.2.2.2.1 = nI (a + 1)) : mhMeR a g = -9 := if_neg h
theorem sgIm_no {w h r : Nat} {kd : Nat → Int32} {p q : Int32} (h1 : ¬ (sgIt w h kd (sgPa p q) 200 (sgSt r p q)).2.2.2.2.2.2 = 2) : sgIm w h kd r p q = -9 := by
  unfold sgIm
  split
  · rfl
  · first | rfl | rw [if_neg h1]
theorem sgIm_nc {w h r : Nat} {kd : Nat → Int32} {p q : Int32} (h1 : sgO (nI (sgMid r) + p) = 0 ∨ ¬ sgO (nI (sgMid r) + p) = sgO (nI (sgMid r) + q)) : sgIm w h kd r p q = -9 := by
  unfold sgIm
  rw [if_pos h1]
theorem sgIm_so {w h r : Nat} {kd : Nat → Int32} {p q : Int32} (h1 : ¬ (sgO (nI (sgMid r) + p) = 0 ∨ ¬ sgO (nI (sgMid r) + p) = sgO (nI (sgMid r) + q))) (h2 : (sgIt w h kd (sgPa p q) 200 (sgSt r p q)).2.2.2.2.2.2 = 2) : sgIm w h kd r p q = nI (sgIt w h kd (sgPa p q) 200 (sgSt r p q)).2.2.1 := by
  unfold sgIm
  rw [if_neg h1, if_pos h2]
theorem mhTurn_of {p q : Int32} (hb : sgBd p q) (hz : ¬ (p = 0 ∧ q = 0)) : mhTurn p q := ⟨hb.1, hb.2, by
  by_cases e : p = 0
  · exact Or.inr (fun e2 => hz ⟨e, e2⟩)
  · exact Or.inl e⟩
set_option maxHeartbeats 4000000 in
set_option maxRecDepth 100000 in
theorem tA_L_law {l : Launch} {K : mhX} {kc ks : Nat} {Φ : mhQ} {S : List mhS} {F : mhF} {I : mhI} {J : mhJ} {P : mhP} {w h nr : Nat} {kd : Nat → Int32} {rp : mhRp} {t : Nat} {o3 o7 o8 o9 o10 o11 o12 o13 o14 o15 o16 o17 : Option Value} (hI : lwI S F I P w h kd kd nr rp) (hL : K.2.2.2.2.1 ≤ 260) (ht14 : t < 14) (kk : ∀ (x : Int32) (r : Nat) (p q : Int32) (N : Nat) (o9 : Option Value), r < gRooms w h → sgBd p q → 1 ≤ N → N ≤ 200 → mhV l K mL_law kc ks Φ 178 [some (.retAddr 0), some (.ref 0), some (.ref 21), o3, some (.int (nI (gRooms w h))), some (.ref 33), some (.int (nI t)), some (.int x), some (.int (nI r)), o9, some (.int p), some (.int q), some (.int (nI N)), o13, o14, o15, o16, o17] [] S F I J P) : mhV l K mL_law kc ks Φ 61 [some (.retAddr 0), some (.ref 0), some (.ref 21), o3, some (.int (nI (gRooms w h))), some (.ref 33), some (.int (nI t)), o7, o8, o9, o10, o11, o12, o13, o14, o15, o16, o17] [] S F I J P := by
  have hg := gBd hI.g
  have kM : ∀ (x : Int32) (r M : Nat), (M = 60 ∨ M = 12) → r < gRooms w h → ∀ o9 : Option Value, mhV l K mL_law kc ks Φ 107 [some (.retAddr 0), some (.ref 0), some (.ref 21), o3, some (.int (nI (gRooms w h))), some (.ref 33), some (.int (nI t)), some (.int x), some (.int (nI r)), o9, o10, o11, o12, o13, o14, o15, o16, o17] [.int (nI M)] S F I J P := by
    intro x r M hM hr o9
    refine mh_istore_9 dL_law_107 (q := 109) rfl ?_
    refine mh_iload_7 dL_law_109 (q := 111) rfl ?_
    refine mh_iconst_5 dL_law_111 (q := 112) rfl ?_
    refine mh_ishr dL_law_112 (q := 113) rfl ?_
    refine mh_iconst_2 dL_law_113 (q := 114) rfl ?_
    refine mh_iload_9 dL_law_114 (q := 116) rfl ?_
    refine mh_imul dL_law_116 (q := 117) rfl ?_
    rw [show (2 : Int32) * nI M = nI (2 * M) from pk_mul 2 M]
    refine mh_iconst_1 dL_law_117 (q := 118) rfl ?_
    refine mh_iadd dL_law_118 (q := 119) rfl ?_
    rw [show nI (2 * M) + 1 = nI (2 * M + 1) from nI_add _ 1]
    refine mh_callS2 ca_L_law_119 (q := 122) rfl (by simp [Value.category]) ⟨Nat.zero_le _, Nat.zero_le _⟩ ?_
    refine sp_L_some (by omega) (by omega) (fun k1 hk1 => ?_)
    refine mh_iload_9 dL_law_122 (q := 124) rfl ?_
    refine mh_isub dL_law_124 (q := 125) rfl ?_
    refine mh_istore_10 dL_law_125 (q := 127) rfl ?_
    refine mh_iload_7 dL_law_127 (q := 129) rfl ?_
    refine mh_bipush (v := 12) dL_law_129 (q := 131) rfl (by decide) ?_
    refine mh_ishr dL_law_131 (q := 132) rfl ?_
    refine mh_iconst_2 dL_law_132 (q := 133) rfl ?_
    refine mh_iload_9 dL_law_133 (q := 135) rfl ?_
    refine mh_imul dL_law_135 (q := 136) rfl ?_
    rw [show (2 : Int32) * nI M = nI (2 * M) from pk_mul 2 M]
    refine mh_iconst_1 dL_law_136 (q := 137) rfl ?_
    refine mh_iadd dL_law_137 (q := 138) rfl ?_
    rw [show nI (2 * M) + 1 = nI (2 * M + 1) from nI_add _ 1]
    refine mh_callS2 ca_L_law_138 (q := 141) rfl (by simp [Value.category]) ⟨Nat.zero_le _, Nat.zero_le _⟩ ?_
    refine sp_L_some (by omega) (by omega) (fun k2 hk2 => ?_)
    refine mh_iload_9 dL_law_141 (q := 143) rfl ?_
    refine mh_isub dL_law_143 (q := 144) rfl ?_
    refine mh_istore_11 dL_law_144 (q := 146) rfl ?_
    have kB : ∀ B, (B = 200 ∨ B = 12) → ∀ xx : Int32, mhV l K mL_law kc ks Φ 172 [some (.retAddr 0), some (.ref 0), some (.ref 21), o3, some (.int (nI (gRooms w h))), some (.ref 33), some (.int (nI t)), some (.int x), some (.int (nI r)), some (.int (nI M)), some (.int (nI k1 - nI M)), some (.int (nI k2 - nI M)), o12, o13, o14, o15, o16, o17] [.int (nI B), .int xx, .int 1] S F I J P := by
      intro B hB xx
      refine mh_callS2 ca_L_law_172 (q := 175) rfl (by simp [Value.category]) ⟨Nat.zero_le _, Nat.zero_le _⟩ ?_
      refine sp_L_some (n := B) (by omega) (by omega) (fun k3 hk3 => ?_)
      refine mh_iadd dL_law_175 (q := 176) rfl ?_
      rw [show (1 : Int32) + nI k3 = nI (1 + k3) from nI_add 1 k3]
      refine mh_istore_12 dL_law_176 (q := 178) rfl ?_
      exact kk x r _ _ (1 + k3) _ hr ⟨sub_bd (by omega) hk1, sub_bd (by omega) hk2⟩ (by omega) (by omega)
    refine mh_iconst_1 dL_law_146 (q := 147) rfl ?_
    refine mh_iload_7 dL_law_147 (q := 149) rfl ?_
    refine mh_bipush (v := 18) dL_law_149 (q := 151) rfl (by decide) ?_
    refine mh_ishr dL_law_151 (q := 152) rfl ?_
    refine mh_iload_7 dL_law_152 (q := 154) rfl ?_
    refine mh_bipush (v := 21) dL_law_154 (q := 156) rfl (by decide) ?_
    refine mh_ishr dL_law_156 (q := 157) rfl ?_
    refine mh_iconst_2 dL_law_157 (q := 158) rfl ?_
    refine mh_callS2 ca_L_law_158 (q := 161) rfl (by simp [Value.category]) ⟨Nat.zero_le _, Nat.zero_le _⟩ ?_
    refine sp_L_some (n := 2) (by omega) (by omega) (fun j2 h2 => ?_)
    refine mh_if_ne dL_law_161 (tgt := 170) (q := 164) rfl rfl (fun c161 => ?_) (fun c161 => ?_)
    · skip
      refine mh_bipush (v := 12) dL_law_170 (q := 172) rfl (by decide) ?_
      exact kB 12 (Or.inr rfl) _
    · skip
      refine mh_sipush (v := 200) dL_law_164 (q := 167) rfl (by decide) ?_
      refine mh_goto dL_law_167 (tgt := 172) rfl ?_
      exact kB 200 (Or.inl rfl) _
  refine mh_iload_6 dL_law_61 (q := 63) rfl ?_
  refine mh_bipush (v := 14) dL_law_63 (q := 65) rfl (by decide) ?_
  refine mh_icmp_ge dL_law_65 (tgt := 635) (q := 68) rfl rfl (fun hh => absurd hh (by rw [show (14 : Int32) = nI 14 from rfl, nI_leI (by omega) (by omega)]; omega)) (fun _ => ?_)
  refine mh_aloadT_0 dL_law_68 (q := 69) rfl ?_
  refine mh_bipush (v := 6) dL_law_69 (q := 71) rfl (by decide) ?_
  refine mh_iload_6 dL_law_71 (q := 73) rfl ?_
  refine mh_iadd dL_law_73 (q := 74) rfl ?_
  rw [show (6 : Int32) + nI t = nI (6 + t) from nI_add 6 t]
  refine mh_callS2 ca_L_law_74 (q := 77) rfl (by simp [Value.category]) ⟨Nat.zero_le _, Nat.zero_le _⟩ ?_
  refine sp_L_cell hL (by omega) (fun x => ?_)
  refine mh_istore_7 dL_law_77 (q := 79) rfl ?_
  refine mh_iload_7 dL_law_79 (q := 81) rfl ?_
  refine mh_iload_4 dL_law_81 (q := 83) rfl ?_
  refine mh_callS2 ca_L_law_83 (q := 86) rfl (by simp [Value.category]) ⟨Nat.zero_le _, Nat.zero_le _⟩ ?_
  refine sp_L_some (by omega) (by omega) (fun r hr => ?_)
  refine mh_istore_8 dL_law_86 (q := 88) rfl ?_
  refine mh_iload_7 dL_law_88 (q := 90) rfl ?_
  refine mh_bipush (v := 20) dL_law_90 (q := 92) rfl (by decide) ?_
  refine mh_ishr dL_law_92 (q := 93) rfl ?_
  refine mh_iconst_3 dL_law_93 (q := 94) rfl ?_
  refine mh_callS2 ca_L_law_94 (q := 97) rfl (by simp [Value.category]) ⟨Nat.zero_le _, Nat.zero_le _⟩ ?_
  refine sp_L_some (n := 3) (by omega) (by omega) (fun j1 h1 => ?_)
  refine mh_if_ne dL_law_97 (tgt := 105) (q := 100) rfl rfl (fun c97 => ?_) (fun c97 => ?_)
  · skip
    refine mh_bipush (v := 12) dL_law_105 (q := 107) rfl (by decide) ?_
    exact kM x r 12 (Or.inr rfl) hr _
  · skip
    refine mh_bipush (v := 60) dL_law_100 (q := 102) rfl (by decide) ?_
    refine mh_goto dL_law_102 (tgt := 107) rfl ?_
    exact kM x r 60 (Or.inl rfl) hr _
set_option maxHeartbeats 4000000 in
set_option maxRecDepth 100000 in
theorem tB_L_law {l : Launch} {K : mhX} {kc ks : Nat} {Φ : mhQ} {S : List mhS} {F : mhF} {I : mhI} {J : mhJ} {P : mhP} {w h nr : Nat} {kd : Nat → Int32} {rp : mhRp} {t r N : Nat} {x p q : Int32} {o3 o9 o13 o14 o15 o16 o17 : Option Value} (hI : lwI S F I P w h kd kd nr rp) (hr : r < gRooms w h) (kk : ¬ (p = 0 ∧ q = 0) → mhV l K mL_law kc ks Φ 236 [some (.retAddr 0), some (.ref 0), some (.ref 21), o3, some (.int (nI (gRooms w h))), some (.ref 33), some (.int (nI t)), some (.int x), some (.int (nI r)), o9, some (.int p), some (.int q), some (.int (nI N)), o13, o14, o15, o16, o17] [] S F I J P) (k0 : mhV l K mL_law kc ks Φ 629 [some (.retAddr 0), some (.ref 0), some (.ref 21), o3, some (.int (nI (gRooms w h))), some (.ref 33), some (.int (nI t)), some (.int x), some (.int (nI r)), o9, some (.int p), some (.int q), some (.int (nI N)), o13, o14, o15, o16, o17] [] S F I J P) : mhV l K mL_law kc ks Φ 178 [some (.retAddr 0), some (.ref 0), some (.ref 21), o3, some (.int (nI (gRooms w h))), some (.ref 33), some (.int (nI t)), some (.int x), some (.int (nI r)), o9, some (.int p), some (.int q), some (.int (nI N)), o13, o14, o15, o16, o17] [] S F I J P := by
  refine mh_iload_10 dL_law_178 (q := 180) rfl ?_
  refine mh_if_ne dL_law_180 (tgt := 236) (q := 183) rfl rfl (fun c180 => ?_) (fun c180 => ?_)
  · skip
    exact kk (fun e => c180 e.1)
  · skip
    refine mh_iload_11 dL_law_183 (q := 185) rfl ?_
    refine mh_if_ne dL_law_185 (tgt := 236) (q := 188) rfl rfl (fun c185 => ?_) (fun c185 => ?_)
    · skip
      exact kk (fun e => c185 e.2)
    · skip
      skip
      refine mh_aload_1 dL_law_188 (q := 189) rfl ?_
      refine mh_iconst_0 dL_law_189 (q := 190) rfl ?_
      refine mh_iload_8 dL_law_190 (q := 192) rfl ?_
      refine mh_iconst_0 dL_law_192 (q := 193) rfl ?_
      refine mh_iconst_0 dL_law_193 (q := 194) rfl ?_
      refine mh_iload_12 dL_law_194 (q := 196) rfl ?_
      refine mh_iconst_0 dL_law_196 (q := 197) rfl ?_
      refine mh_callV6 ca_L_law_197 (shX6_0 hI.k6) (q := 200) rfl (by simp [Value.category]) ⟨Nat.zero_le _, Nat.zero_le _⟩ ?_
      refine lw_seenB hI hr (fun e => by rcases e.1.2.2 with z | z <;> exact z rfl) ?_
      refine mh_bipush (v := (-2)) dL_law_200 (q := 202) rfl (by decide) ?_
      refine mh_icmp_ne dL_law_202 (tgt := 234) (q := 205) rfl rfl (fun hh => False.elim (by revert hh; decide)) (fun _ => ?_)
      refine mh_aload_1 dL_law_205 (q := 206) rfl ?_
      refine mh_iconst_0 dL_law_206 (q := 207) rfl ?_
      refine mh_iload_8 dL_law_207 (q := 209) rfl ?_
      refine mh_iconst_0 dL_law_209 (q := 210) rfl ?_
      refine mh_iconst_0 dL_law_210 (q := 211) rfl ?_
      refine mh_iconst_0 dL_law_211 (q := 212) rfl ?_
      refine mh_callV5 ca_L_law_212 (shX6_0 hI.k6) (q := 215) rfl (by simp [Value.category]) ⟨Nat.zero_le _, Nat.zero_le _⟩ ?_
      refine lw_metB hI hr (fun e => by rcases e.1.2.2 with z | z <;> exact z rfl) (by decide) ?_
      refine mh_bipush (v := (-2)) dL_law_215 (q := 217) rfl (by decide) ?_
      refine mh_icmp_ne dL_law_217 (tgt := 234) (q := 220) rfl rfl (fun hh => False.elim (by revert hh; decide)) (fun _ => ?_)
      refine mh_aload_1 dL_law_220 (q := 221) rfl ?_
      refine mh_iconst_0 dL_law_221 (q := 222) rfl ?_
      refine mh_iload_8 dL_law_222 (q := 224) rfl ?_
      refine mh_iconst_0 dL_law_224 (q := 225) rfl ?_
      refine mh_iconst_0 dL_law_225 (q := 226) rfl ?_
      refine mh_callV4 ca_L_law_226 (shX6_0 hI.k6) (q := 229) rfl (by simp [Value.category]) ⟨Nat.zero_le _, Nat.zero_le _⟩ ?_
      refine lw_imageB hI hr (fun e => by rcases e.2.2 with z | z <;> exact z rfl) ?_
      refine mh_bipush (v := (-2)) dL_law_229 (q := 231) rfl (by decide) ?_
      refine mh_icmp_eq dL_law_231 (tgt := 629) (q := 234) rfl rfl (fun _ => ?_) (fun hh => False.elim (by revert hh; decide))
      exact k0
set_option maxHeartbeats 4000000 in
set_option maxRecDepth 100000 in
theorem tC_L_law {l : Launch} {K : mhX} {kc ks : Nat} {Φ : mhQ} {S : List mhS} {F : mhF} {I : mhI} {J : mhJ} {P : mhP} {w h nr : Nat} {kd : Nat → Int32} {rp : mhRp} {t r N : Nat} {x p q : Int32} {o3 o9 o13 o14 o15 o16 o17 : Option Value} (hI : lwI S F I P w h kd kd nr rp) (hr : r < gRooms w h) (ht : mhTurn p q) (hz : ¬ (p = 0 ∧ q = 0)) (hkd : ∀ x, x < gSides w h → 0 ≤ kd x) (hN1 : 1 ≤ N) (hN : N ≤ 200) (kk : ∀ F I, lwI S F I P w h kd kd nr rp → lwOut S I 33 (sgRun w h kd (sgPa p q) N (sgSt r p q)).2.2.2.1 (sgRun w h kd (sgPa p q) N (sgSt r p q)).2.2.2.2.1 (sgRun w h kd (sgPa p q) N (sgSt r p q)).2.2.1 (sgRun w h kd (sgPa p q) N (sgSt r p q)).2.2.2.2.2.1 0 → mhV l K mL_law kc ks Φ 336 [some (.retAddr 0), some (.ref 0), some (.ref 21), o3, some (.int (nI (gRooms w h))), some (.ref 33), some (.int (nI t)), some (.int x), some (.int (nI r)), o9, some (.int p), some (.int q), some (.int (nI N)), some (.int (sgRun w h kd (sgPa p q) N (sgSt r p q)).2.2.2.2.2.2), o14, o15, o16, o17] [] S F I J P) : mhV l K mL_law kc ks Φ 236 [some (.retAddr 0), some (.ref 0), some (.ref 21), o3, some (.int (nI (gRooms w h))), some (.ref 33), some (.int (nI t)), some (.int x), some (.int (nI r)), o9, some (.int p), some (.int q), some (.int (nI N)), o13, o14, o15, o16, o17] [] S F I J P := by
  refine mh_aload_2 dL_law_236 (q := 237) rfl ?_
  refine mh_iload_8 dL_law_237 (q := 239) rfl ?_
  refine mh_iload_10 dL_law_239 (q := 241) rfl ?_
  refine mh_iload_11 dL_law_241 (q := 243) rfl ?_
  refine mh_iload_12 dL_law_243 (q := 245) rfl ?_
  refine mh_aload_5 dL_law_245 (q := 247) rfl ?_
  refine mh_callS6 ca_L_law_247 (q := 250) rfl (by simp [Value.category]) ⟨Nat.zero_le _, Nat.zero_le _⟩ ?_
  refine sp_L_go hI.of hI.out (by decide) hr hkd ht.bd hz (by omega) (fun I hf hU => ?_)
  have hI := hI.fo hf
  refine mh_istore_13 dL_law_250 (q := 252) rfl ?_
  refine mh_aload_1 dL_law_252 (q := 253) rfl ?_
  refine mh_iconst_0 dL_law_253 (q := 254) rfl ?_
  refine mh_iload_8 dL_law_254 (q := 256) rfl ?_
  refine mh_iload_10 dL_law_256 (q := 258) rfl ?_
  refine mh_iload_11 dL_law_258 (q := 260) rfl ?_
  refine mh_iload_12 dL_law_260 (q := 262) rfl ?_
  refine mh_iconst_0 dL_law_262 (q := 263) rfl ?_
  refine mh_callV6 ca_L_law_263 (shX6_0 hI.k6) (q := 266) rfl (by simp [Value.category]) ⟨Nat.zero_le _, Nat.zero_le _⟩ ?_
  refine lw_seen hI hr ht hN1 hN (by decide) (fun F I hI hu => ?_)
  have hU := hU.keep hu
  refine mh_iload_13 dL_law_266 (q := 268) rfl ?_
  refine mh_icmp_ne dL_law_268 (tgt := 334) (q := 271) rfl rfl (fun hh => absurd (mhSeR_0 _) hh) (fun _ => ?_)
  refine mh_aload_1 dL_law_271 (q := 272) rfl ?_
  refine mh_iconst_0 dL_law_272 (q := 273) rfl ?_
  refine mh_iload_8 dL_law_273 (q := 275) rfl ?_
  refine mh_iload_10 dL_law_275 (q := 277) rfl ?_
  refine mh_iload_11 dL_law_277 (q := 279) rfl ?_
  refine mh_iload_12 dL_law_279 (q := 281) rfl ?_
  refine mh_iconst_1 dL_law_281 (q := 282) rfl ?_
  refine mh_callV6 ca_L_law_282 (shX6_0 hI.k6) (q := 285) rfl (by simp [Value.category]) ⟨Nat.zero_le _, Nat.zero_le _⟩ ?_
  refine lw_seen hI hr ht hN1 hN (by decide) (fun F I hI hu => ?_)
  have hU := hU.keep hu
  refine mh_aload_5 dL_law_285 (q := 287) rfl ?_
  refine mh_iconst_0 dL_law_287 (q := 288) rfl ?_
  refine mh_iald dL_law_288 (q := 289) rfl hU.1 (vp_in_nI (n := 0) (by decide) (by decide)) ?_
  rw [hU.2.1]
  refine mh_icmp_ne dL_law_289 (tgt := 334) (q := 292) rfl rfl (fun hh => absurd (mhSeR_1 _) hh) (fun _ => ?_)
  refine mh_aload_1 dL_law_292 (q := 293) rfl ?_
  refine mh_iconst_0 dL_law_293 (q := 294) rfl ?_
  refine mh_iload_8 dL_law_294 (q := 296) rfl ?_
  refine mh_iload_10 dL_law_296 (q := 298) rfl ?_
  refine mh_iload_11 dL_law_298 (q := 300) rfl ?_
  refine mh_iload_12 dL_law_300 (q := 302) rfl ?_
  refine mh_iconst_2 dL_law_302 (q := 303) rfl ?_
  refine mh_callV6 ca_L_law_303 (shX6_0 hI.k6) (q := 306) rfl (by simp [Value.category]) ⟨Nat.zero_le _, Nat.zero_le _⟩ ?_
  refine lw_seen hI hr ht hN1 hN (by decide) (fun F I hI hu => ?_)
  have hU := hU.keep hu
  refine mh_aload_5 dL_law_306 (q := 308) rfl ?_
  refine mh_iconst_1 dL_law_308 (q := 309) rfl ?_
  refine mh_iald dL_law_309 (q := 310) rfl hU.1 (vp_in_nI (n := 1) (by decide) (by decide)) ?_
  rw [hU.2.2.1]
  refine mh_icmp_ne dL_law_310 (tgt := 334) (q := 313) rfl rfl (fun hh => absurd (mhSeR_2 _) hh) (fun _ => ?_)
  refine mh_aload_1 dL_law_313 (q := 314) rfl ?_
  refine mh_iconst_0 dL_law_314 (q := 315) rfl ?_
  refine mh_iload_8 dL_law_315 (q := 317) rfl ?_
  refine mh_iload_10 dL_law_317 (q := 319) rfl ?_
  refine mh_iload_11 dL_law_319 (q := 321) rfl ?_
  refine mh_iload_12 dL_law_321 (q := 323) rfl ?_
  refine mh_iconst_3 dL_law_323 (q := 324) rfl ?_
  refine mh_callV6 ca_L_law_324 (shX6_0 hI.k6) (q := 327) rfl (by simp [Value.category]) ⟨Nat.zero_le _, Nat.zero_le _⟩ ?_
  refine lw_seen hI hr ht hN1 hN (by decide) (fun F I hI hu => ?_)
  have hU := hU.keep hu
  refine mh_aload_5 dL_law_327 (q := 329) rfl ?_
  refine mh_iconst_2 dL_law_329 (q := 330) rfl ?_
  refine mh_iald dL_law_330 (q := 331) rfl hU.1 (vp_in_nI (n := 2) (by decide) (by decide)) ?_
  rw [hU.2.2.2.1]
  refine mh_icmp_eq dL_law_331 (tgt := 336) (q := 334) rfl rfl (fun _ => ?_) (fun hh => absurd (mhSeR_3 _) hh)
  exact kk F I hI hU
set_option maxHeartbeats 4000000 in
set_option maxRecDepth 100000 in
theorem lp_L_met {l : Launch} {K : mhX} {kc ks : Nat} {Φ : mhQ} {J : mhJ} {S : List mhS} {P : mhP} {w h nr : Nat} {kd : Nat → Int32} {rp : mhRp} {t r N : Nat} {x p q : Int32} {en : Int32} {o3 o9 : Option Value} (hr : r < gRooms w h) (ht : mhTurn p q) (hz : ¬ (p = 0 ∧ q = 0)) (hkd : ∀ x, x < gSides w h → 0 ≤ kd x) (hN1 : 1 ≤ N) (hN : N ≤ 200) (hg : gRooms w h ≤ 24) (kk : ∀ F I (o16 o17 : Option Value), lwI S F I P w h kd kd nr rp → mhV l K mL_law kc ks Φ 460 [some (.retAddr 0), some (.ref 0), some (.ref 21), o3, some (.int (nI (gRooms w h))), some (.ref 33), some (.int (nI t)), some (.int x), some (.int (nI r)), o9, some (.int p), some (.int q), some (.int (nI N)), some (.int en), some (.int (nI (sgRun w h kd (sgPa p q) N (sgSt r p q)).2.2.2.1)), some (.int (nI 6)), o16, o17] [] S F I J P) : ∀ (m k : Nat), k + m = 6 → ∀ (F : mhF) (I : mhI) (o16 o17 : Option Value), lwI S F I P w h kd kd nr rp → mhV l K mL_law kc ks Φ 345 [some (.retAddr 0), some (.ref 0), some (.ref 21), o3, some (.int (nI (gRooms w h))), some (.ref 33), some (.int (nI t)), some (.int x), some (.int (nI r)), o9, some (.int p), some (.int q), some (.int (nI N)), some (.int en), some (.int (nI (sgRun w h kd (sgPa p q) N (sgSt r p q)).2.2.2.1)), some (.int (nI k)), o16, o17] [] S F I J P := by
  have hC : (sgRun w h kd (sgPa p q) N (sgSt r p q)).2.2.2.1 ≤ N := by
    have := sgRun_le (w := w) (h := h) (kd := kd) (p := sgPa p q) N (sgSt r p q)
    exact Nat.le_trans this (by show 0 + N ≤ N; omega)
  intro m
  induction m with
  | zero =>
    intro k hk F I o16 o17 hI
    obtain rfl : k = 6 := by omega
    refine mh_iload_15 dL_law_345 (q := 347) rfl ?_
    refine mh_bipush (v := 6) dL_law_347 (q := 349) rfl (by decide) ?_
    refine mh_icmp_ge dL_law_349 (tgt := 460) (q := 352) rfl rfl (fun _ => ?_) (fun hh => False.elim (by revert hh; decide))
    exact kk F I _ _ hI
  | succ m ih =>
    intro k hk F I o16 o17 hI
    have kA : ∀ (a : Nat), a < 200 → ∀ (o16 o17 : Option Value), mhV l K mL_law kc ks Φ 373 [some (.retAddr 0), some (.ref 0), some (.ref 21), o3, some (.int (nI (gRooms w h))), some (.ref 33), some (.int (nI t)), some (.int x), some (.int (nI r)), o9, some (.int p), some (.int q), some (.int (nI N)), some (.int en), some (.int (nI (sgRun w h kd (sgPa p q) N (sgSt r p q)).2.2.2.1)), some (.int (nI k)), o16, o17] [.int (nI a)] S F I J P := by
      intro a ha o16 o17
      have hCa : (sgRun w h kd (sgPa p q) (a + 1) (sgSt r p q)).2.2.2.1 ≤ a + 1 := by
        have := sgRun_le (w := w) (h := h) (kd := kd) (p := sgPa p q) (a + 1) (sgSt r p q)
        exact Nat.le_trans this (by show 0 + (a + 1) ≤ a + 1; omega)
      have en0 : ¬ (sgRun w h kd (sgPa p q) (a + 1) (sgSt r p q)).2.2.2.2.2.2 < 0 := by
        rcases sgRun_ends (w := w) (h := h) (kd := kd) (p := sgPa p q) (a + 1) (sgSt r p q) (Or.inr (Or.inr rfl)) with e | e | e <;> rw [e] <;> decide
      refine mh_istore_16 dL_law_373 (q := 375) rfl ?_
      refine mh_aload_2 dL_law_375 (q := 376) rfl ?_
      refine mh_iload_8 dL_law_376 (q := 378) rfl ?_
      refine mh_iload_10 dL_law_378 (q := 380) rfl ?_
      refine mh_iload_11 dL_law_380 (q := 382) rfl ?_
      refine mh_iload_16 dL_law_382 (q := 384) rfl ?_
      refine mh_iconst_1 dL_law_384 (q := 385) rfl ?_
      refine mh_iadd dL_law_385 (q := 386) rfl ?_
      rw [show nI a + 1 = nI (a + 1) from nI_add a 1]
      refine mh_aload_5 dL_law_386 (q := 388) rfl ?_
      refine mh_callS6 ca_L_law_388 (q := 391) rfl (by simp [Value.category]) ⟨Nat.zero_le _, Nat.zero_le _⟩ ?_
      refine sp_L_go hI.of hI.out (by decide) hr hkd ht.bd hz (by omega) (fun I hf hU => ?_)
      have hI := hI.fo hf
      refine mh_istore_17 dL_law_391 (q := 393) rfl ?_
      refine mh_aload_1 dL_law_393 (q := 394) rfl ?_
      refine mh_iconst_0 dL_law_394 (q := 395) rfl ?_
      refine mh_iload_8 dL_law_395 (q := 397) rfl ?_
      refine mh_iload_10 dL_law_397 (q := 399) rfl ?_
      refine mh_iload_11 dL_law_399 (q := 401) rfl ?_
      refine mh_iload_16 dL_law_401 (q := 403) rfl ?_
      refine mh_callV5 ca_L_law_403 (shX6_0 hI.k6) (q := 406) rfl (by simp [Value.category]) ⟨Nat.zero_le _, Nat.zero_le _⟩ ?_
      refine lw_met hI hr ht ha (fun F I hI hu => ?_)
      have hU := hU.keep hu
      refine mh_aload_5 dL_law_406 (q := 408) rfl ?_
      refine mh_iconst_0 dL_law_408 (q := 409) rfl ?_
      refine mh_iald dL_law_409 (q := 410) rfl hU.1 (vp_in_nI (n := 0) (by decide) (by decide)) ?_
      rw [hU.2.1]
      refine mh_iload_16 dL_law_410 (q := 412) rfl ?_
      refine mh_iconst_1 dL_law_412 (q := 413) rfl ?_
      refine mh_iadd dL_law_413 (q := 414) rfl ?_
      rw [show nI a + 1 = nI (a + 1) from nI_add a 1]
      refine mh_icmp_ne dL_law_414 (tgt := 424) (q := 417) rfl rfl (fun ce => ?_) (fun ce => ?_)
      · skip
        refine mh_bipush (v := (-9)) dL_law_424 (q := 426) rfl (by decide) ?_
        refine mh_icmp_ne dL_law_426 (tgt := 452) (q := 429) rfl rfl (fun hh => absurd (mhMeR_f ce) hh) (fun _ => ?_)
        refine mh_iload_17 dL_law_429 (q := 431) rfl ?_
        refine mh_if_lt dL_law_431 (tgt := 452) (q := 434) rfl rfl (fun hh => absurd hh en0) (fun _ => ?_)
        refine mh_iload_16 dL_law_434 (q := 436) rfl ?_
        refine mh_iload_14 dL_law_436 (q := 438) rfl ?_
        refine mh_icmp_ge dL_law_438 (tgt := 454) (q := 441) rfl rfl (fun cg => ?_) (fun cg => ?_)
        · skip
          refine mh_iinc_15 (v := 1) dL_law_454 (q := 457) rfl (by decide) ?_
          refine mh_goto dL_law_457 (tgt := 345) rfl ?_
          rw [show nI k + 1 = nI (k + 1) from nI_add k 1]
          exact ih (k + 1) (by omega) F I _ _ hI
        · skip
          refine mh_aload_5 dL_law_441 (q := 443) rfl ?_
          refine mh_iconst_0 dL_law_443 (q := 444) rfl ?_
          refine mh_iald dL_law_444 (q := 445) rfl hU.1 (vp_in_nI (n := 0) (by decide) (by decide)) ?_
          rw [hU.2.1]
          refine mh_iload_16 dL_law_445 (q := 447) rfl ?_
          refine mh_iconst_1 dL_law_447 (q := 448) rfl ?_
          refine mh_iadd dL_law_448 (q := 449) rfl ?_
          rw [show nI a + 1 = nI (a + 1) from nI_add a 1]
          refine mh_icmp_eq dL_law_449 (tgt := 454) (q := 452) rfl rfl (fun _ => ?_) (fun hh => absurd (by rw [nI_leI (by omega) (by omega)] at cg; rw [show (sgRun w h kd (sgPa p q) (a + 1) (sgSt r p q)).2.2.2.1 = a + 1 from (sgRun_at a N (sgSt r p q) (by show 0 + a < _; omega)).trans (by show 0 + (a + 1) = _; omega)]) hh)
          refine mh_iinc_15 (v := 1) dL_law_454 (q := 457) rfl (by decide) ?_
          refine mh_goto dL_law_457 (tgt := 345) rfl ?_
          rw [show nI k + 1 = nI (k + 1) from nI_add k 1]
          exact ih (k + 1) (by omega) F I _ _ hI
      · skip
        refine mh_aload_5 dL_law_417 (q := 419) rfl ?_
        refine mh_iconst_3 dL_law_419 (q := 420) rfl ?_
        refine mh_iald dL_law_420 (q := 421) rfl hU.1 (vp_in_nI (n := 3) (by decide) (by decide)) ?_
        rw [hU.2.2.2.2.1]
        refine mh_goto dL_law_421 (tgt := 426) rfl ?_
        refine mh_icmp_ne dL_law_426 (tgt := 452) (q := 429) rfl rfl (fun hh => absurd (mhMeR_t ce) hh) (fun _ => ?_)
        refine mh_iload_17 dL_law_429 (q := 431) rfl ?_
        refine mh_if_lt dL_law_431 (tgt := 452) (q := 434) rfl rfl (fun hh => absurd hh en0) (fun _ => ?_)
        refine mh_iload_16 dL_law_434 (q := 436) rfl ?_
        refine mh_iload_14 dL_law_436 (q := 438) rfl ?_
        refine mh_icmp_ge dL_law_438 (tgt := 454) (q := 441) rfl rfl (fun cg => ?_) (fun cg => ?_)
        · skip
          refine mh_iinc_15 (v := 1) dL_law_454 (q := 457) rfl (by decide) ?_
          refine mh_goto dL_law_457 (tgt := 345) rfl ?_
          rw [show nI k + 1 = nI (k + 1) from nI_add k 1]
          exact ih (k + 1) (by omega) F I _ _ hI
        · skip
          refine mh_aload_5 dL_law_441 (q := 443) rfl ?_
          refine mh_iconst_0 dL_law_443 (q := 444) rfl ?_
          refine mh_iald dL_law_444 (q := 445) rfl hU.1 (vp_in_nI (n := 0) (by decide) (by decide)) ?_
          rw [hU.2.1]
          refine mh_iload_16 dL_law_445 (q := 447) rfl ?_
          refine mh_iconst_1 dL_law_447 (q := 448) rfl ?_
          refine mh_iadd dL_law_448 (q := 449) rfl ?_
          rw [show nI a + 1 = nI (a + 1) from nI_add a 1]
          refine mh_icmp_eq dL_law_449 (tgt := 454) (q := 452) rfl rfl (fun _ => ?_) (fun hh => absurd (by rw [nI_leI (by omega) (by omega)] at cg; rw [show (sgRun w h kd (sgPa p q) (a + 1) (sgSt r p q)).2.2.2.1 = a + 1 from (sgRun_at a N (sgSt r p q) (by show 0 + a < _; omega)).trans (by show 0 + (a + 1) = _; omega)]) hh)
          refine mh_iinc_15 (v := 1) dL_law_454 (q := 457) rfl (by decide) ?_
          refine mh_goto dL_law_457 (tgt := 345) rfl ?_
          rw [show nI k + 1 = nI (k + 1) from nI_add k 1]
          exact ih (k + 1) (by omega) F I _ _ hI
    refine mh_iload_15 dL_law_345 (q := 347) rfl ?_
    refine mh_bipush (v := 6) dL_law_347 (q := 349) rfl (by decide) ?_
    refine mh_icmp_ge dL_law_349 (tgt := 460) (q := 352) rfl rfl (fun hh => absurd hh (by rw [show (6 : Int32) = nI 6 from rfl, nI_leI (by omega) (by omega)]; omega)) (fun _ => ?_)
    refine mh_iload_15 dL_law_352 (q := 354) rfl ?_
    refine mh_iconst_4 dL_law_354 (q := 355) rfl ?_
    refine mh_icmp_ge dL_law_355 (tgt := 363) (q := 358) rfl rfl (fun c4 => ?_) (fun c4 => ?_)
    · skip
      refine mh_iload_7 dL_law_363 (q := 365) rfl ?_
      refine mh_iload_15 dL_law_365 (q := 367) rfl ?_
      refine mh_ishr dL_law_367 (q := 368) rfl ?_
      refine mh_iload_12 dL_law_368 (q := 370) rfl ?_
      refine mh_callS2 ca_L_law_370 (q := 373) rfl (by simp [Value.category]) ⟨Nat.zero_le _, Nat.zero_le _⟩ ?_
      refine sp_L_some hN1 (by omega) (fun a ha => ?_)
      exact kA a (by omega) _ _
    · skip
      refine mh_iload_15 dL_law_358 (q := 360) rfl ?_
      refine mh_goto dL_law_360 (tgt := 373) rfl ?_
      exact kA k (by omega) _ _
set_option maxHeartbeats 4000000 in
set_option maxRecDepth 100000 in
theorem tD_L_law {l : Launch} {K : mhX} {kc ks : Nat} {Φ : mhQ} {S : List mhS} {F : mhF} {I : mhI} {J : mhJ} {P : mhP} {w h nr : Nat} {kd : Nat → Int32} {rp : mhRp} {t r N : Nat} {x p q en : Int32} {o3 o9 o14 o15 o16 o17 : Option Value} (hI : lwI S F I P w h kd kd nr rp) (hr : r < gRooms w h) (ht : mhTurn p q) (hz : ¬ (p = 0 ∧ q = 0)) (hkd : ∀ x, x < gSides w h → 0 ≤ kd x) (hN1 : 1 ≤ N) (hN : N ≤ 200) (hU : lwOut S I 33 (sgRun w h kd (sgPa p q) N (sgSt r p q)).2.2.2.1 (sgRun w h kd (sgPa p q) N (sgSt r p q)).2.2.2.2.1 (sgRun w h kd (sgPa p q) N (sgSt r p q)).2.2.1 (sgRun w h kd (sgPa p q) N (sgSt r p q)).2.2.2.2.2.1 0) (kk : ∀ F I (o16 o17 : Option Value), lwI S F I P w h kd kd nr rp → mhV l K mL_law kc ks Φ 460 [some (.retAddr 0), some (.ref 0), some (.ref 21), o3, some (.int (nI (gRooms w h))), some (.ref 33), some (.int (nI t)), some (.int x), some (.int (nI r)), o9, some (.int p), some (.int q), some (.int (nI N)), some (.int en), some (.int (nI (sgRun w h kd (sgPa p q) N (sgSt r p q)).2.2.2.1)), some (.int (nI 6)), o16, o17] [] S F I J P) : mhV l K mL_law kc ks Φ 336 [some (.retAddr 0), some (.ref 0), some (.ref 21), o3, some (.int (nI (gRooms w h))), some (.ref 33), some (.int (nI t)), some (.int x), some (.int (nI r)), o9, some (.int p), some (.int q), some (.int (nI N)), some (.int en), o14, o15, o16, o17] [] S F I J P := by
  refine mh_aload_5 dL_law_336 (q := 338) rfl ?_
  refine mh_iconst_0 dL_law_338 (q := 339) rfl ?_
  refine mh_iald dL_law_339 (q := 340) rfl hU.1 (vp_in_nI (n := 0) (by decide) (by decide)) ?_
  rw [hU.2.1]
  refine mh_istore_14 dL_law_340 (q := 342) rfl ?_
  refine mh_iconst_0 dL_law_342 (q := 343) rfl ?_
  refine mh_istore_15 dL_law_343 (q := 345) rfl ?_
  exact lp_L_met hr ht hz hkd hN1 hN (gBd hI.g).1 kk 6 0 (by omega) F I _ _ hI
set_option maxHeartbeats 4000000 in
set_option maxRecDepth 100000 in
theorem tE_L_law {l : Launch} {K : mhX} {kc ks : Nat} {Φ : mhQ} {S : List mhS} {F : mhF} {I : mhI} {J : mhJ} {P : mhP} {w h nr : Nat} {kd : Nat → Int32} {rp : mhRp} {t r N : Nat} {x p q cc : Int32} {o3 o9 o13 o15 o16 o17 : Option Value} (hI : lwI S F I P w h kd kd nr rp) (hr : r < gRooms w h) (ht : mhTurn p q) (hz : ¬ (p = 0 ∧ q = 0)) (hkd : ∀ x, x < gSides w h → 0 ≤ kd x) (kk : ∀ F I fl2, lwI S F I P w h kd kd nr rp → lwOut S I 33 (sgIt w h kd (sgPa p q) 200 (sgSt r p q)).2.2.2.1 (sgIt w h kd (sgPa p q) 200 (sgSt r p q)).2.2.2.2.1 (sgIt w h kd (sgPa p q) 200 (sgSt r p q)).2.2.1 (sgIt w h kd (sgPa p q) 200 (sgSt r p q)).2.2.2.2.2.1 fl2 → ((sgIt w h kd (sgPa p q) 200 (sgSt r p q)).2.2.2.2.2.2 = 2 → fl2 = 1 → sgIm w h kd r p q = nI (sgIt w h kd (sgPa p q) 200 (sgSt r p q)).2.2.1) → mhV l K mL_law kc ks Φ 514 [some (.retAddr 0), some (.ref 0), some (.ref 21), o3, some (.int (nI (gRooms w h))), some (.ref 33), some (.int (nI t)), some (.int x), some (.int (nI r)), o9, some (.int p), some (.int q), some (.int (nI N)), o13, some (.int cc), some (.int (sgIt w h kd (sgPa p q) 200 (sgSt r p q)).2.2.2.2.2.2), o16, o17] [] S F I J P) : mhV l K mL_law kc ks Φ 460 [some (.retAddr 0), some (.ref 0), some (.ref 21), o3, some (.int (nI (gRooms w h))), some (.ref 33), some (.int (nI t)), some (.int x), some (.int (nI r)), o9, some (.int p), some (.int q), some (.int (nI N)), o13, some (.int cc), o15, o16, o17] [] S F I J P := by
  refine mh_aload_2 dL_law_460 (q := 461) rfl ?_
  refine mh_iload_8 dL_law_461 (q := 463) rfl ?_
  refine mh_iload_10 dL_law_463 (q := 465) rfl ?_
  refine mh_iload_11 dL_law_465 (q := 467) rfl ?_
  refine mh_iconst_m1 dL_law_467 (q := 468) rfl ?_
  refine mh_aload_5 dL_law_468 (q := 470) rfl ?_
  refine mh_callS6 ca_L_law_470 (q := 473) rfl (by simp [Value.category]) ⟨Nat.zero_le _, Nat.zero_le _⟩ ?_
  refine sp_L_goI hI.of hI.out (by decide) hr hkd ht.bd hz (fun I fl2 hf hU hfl => ?_)
  have hI := hI.fo hf
  refine mh_istore_15 dL_law_473 (q := 475) rfl ?_
  refine mh_aload_1 dL_law_475 (q := 476) rfl ?_
  refine mh_iconst_0 dL_law_476 (q := 477) rfl ?_
  refine mh_iload_8 dL_law_477 (q := 479) rfl ?_
  refine mh_iload_10 dL_law_479 (q := 481) rfl ?_
  refine mh_iload_11 dL_law_481 (q := 483) rfl ?_
  refine mh_callV4 ca_L_law_483 (shX6_0 hI.k6) (q := 486) rfl (by simp [Value.category]) ⟨Nat.zero_le _, Nat.zero_le _⟩ ?_
  refine lw_image hI hr ht (fun F I hI hu => ?_)
  have hU := hU.keep hu
  refine mh_iload_15 dL_law_486 (q := 488) rfl ?_
  refine mh_iconst_2 dL_law_488 (q := 489) rfl ?_
  refine mh_icmp_ne dL_law_489 (tgt := 507) (q := 492) rfl rfl (fun c2 => ?_) (fun c2 => ?_)
  · skip
    refine mh_bipush (v := (-9)) dL_law_507 (q := 509) rfl (by decide) ?_
    refine mh_icmp_eq dL_law_509 (tgt := 514) (q := 512) rfl rfl (fun _ => ?_) (fun hh => absurd (sgIm_no c2) hh)
    exact kk F I _ hI hU (fun c2 c1 => sgIm_so (fun z => by have := (hfl c2).2 (fun n => n z); rw [c1] at this; exact absurd this (by decide)) c2)
  · skip
    refine mh_aload_5 dL_law_492 (q := 494) rfl ?_
    refine mh_iconst_4 dL_law_494 (q := 495) rfl ?_
    refine mh_iald dL_law_495 (q := 496) rfl hU.1 (vp_in_nI (n := 4) (by decide) (by decide)) ?_
    rw [hU.2.2.2.2.2]
    refine mh_iconst_1 dL_law_496 (q := 497) rfl ?_
    refine mh_icmp_ne dL_law_497 (tgt := 507) (q := 500) rfl rfl (fun c1 => ?_) (fun c1 => ?_)
    · skip
      refine mh_bipush (v := (-9)) dL_law_507 (q := 509) rfl (by decide) ?_
      refine mh_icmp_eq dL_law_509 (tgt := 514) (q := 512) rfl rfl (fun _ => ?_) (fun hh => absurd (sgIm_nc (Decidable.byContradiction fun z => c1 ((hfl c2).1 z))) hh)
      exact kk F I _ hI hU (fun c2 c1 => sgIm_so (fun z => by have := (hfl c2).2 (fun n => n z); rw [c1] at this; exact absurd this (by decide)) c2)
    · skip
      refine mh_aload_5 dL_law_500 (q := 502) rfl ?_
      refine mh_iconst_2 dL_law_502 (q := 503) rfl ?_
      refine mh_iald dL_law_503 (q := 504) rfl hU.1 (vp_in_nI (n := 2) (by decide) (by decide)) ?_
      rw [hU.2.2.2.1]
      refine mh_goto dL_law_504 (tgt := 509) rfl ?_
      refine mh_icmp_eq dL_law_509 (tgt := 514) (q := 512) rfl rfl (fun _ => ?_) (fun hh => absurd (sgIm_so (fun z => by have := (hfl c2).2 (fun n => n z); rw [c1] at this; exact absurd this (by decide)) c2) hh)
      exact kk F I _ hI hU (fun c2 c1 => sgIm_so (fun z => by have := (hfl c2).2 (fun n => n z); rw [c1] at this; exact absurd this (by decide)) c2)
set_option maxHeartbeats 4000000 in
set_option maxRecDepth 100000 in
theorem tF_L_law {l : Launch} {K : mhX} {kc ks : Nat} {Φ : mhQ} {S : List mhS} {F : mhF} {I : mhI} {J : mhJ} {P : mhP} {w h nr : Nat} {kd : Nat → Int32} {rp : mhRp} {t r N : Nat} {x p q fl2 : Int32} {o3 o9 o13 o14 o16 o17 : Option Value} (hI : lwI S F I P w h kd kd nr rp) (hr : r < gRooms w h) (ht : mhTurn p q) (htt : t < 14) (hnt : nr ≤ t) (hkc : 1 ≤ kc) (hks : 5 ≤ ks) (hrb : (sgIt w h kd (sgPa p q) 200 (sgSt r p q)).2.2.1 < 100) (hU : lwOut S I 33 (sgIt w h kd (sgPa p q) 200 (sgSt r p q)).2.2.2.1 (sgIt w h kd (sgPa p q) 200 (sgSt r p q)).2.2.2.2.1 (sgIt w h kd (sgPa p q) 200 (sgSt r p q)).2.2.1 (sgIt w h kd (sgPa p q) 200 (sgSt r p q)).2.2.2.2.2.1 fl2) (him : (sgIt w h kd (sgPa p q) 200 (sgSt r p q)).2.2.2.2.2.2 = 2 → fl2 = 1 → sgIm w h kd r p q = nI (sgIt w h kd (sgPa p q) 200 (sgSt r p q)).2.2.1) (kk : ∀ S F I P nr2 rp2 kc2 ks2, kc ≤ kc2 + 1 → ks ≤ ks2 + 5 → nr2 ≤ t + 1 → lwI S F I P w h kd kd nr2 rp2 → ∀ (o3 o7 o8 o9 o10 o11 o12 o13 o14 o15 o16 o17 : Option Value), mhV l K mL_law kc2 ks2 Φ 629 [some (.retAddr 0), some (.ref 0), some (.ref 21), o3, some (.int (nI (gRooms w h))), some (.ref 33), some (.int (nI t)), o7, o8, o9, o10, o11, o12, o13, o14, o15, o16, o17] [] S F I J P) : mhV l K mL_law kc ks Φ 514 [some (.retAddr 0), some (.ref 0), some (.ref 21), o3, some (.int (nI (gRooms w h))), some (.ref 33), some (.int (nI t)), some (.int x), some (.int (nI r)), o9, some (.int p), some (.int q), some (.int (nI N)), o13, o14, some (.int (sgIt w h kd (sgPa p q) 200 (sgSt r p q)).2.2.2.2.2.2), o16, o17] [] S F I J P := by
  have hg := gBd hI.g
  refine mh_iload_6 dL_law_514 (q := 516) rfl ?_
  refine mh_iconst_3 dL_law_516 (q := 517) rfl ?_
  refine mh_icmp_gt dL_law_517 (tgt := 629) (q := 520) rfl rfl (fun c3 => ?_) (fun c3 => ?_)
  · skip
    exact kk S F I P _ _ kc ks (by omega) (by omega) (by omega) hI _ _ _ _ _ _ _ _ _ _ _ _
  · skip
    have ht3 : t ≤ 3 := by
      rw [show (3 : Int32) = nI 3 from rfl, nI_ltI (by omega) (by omega)] at c3
      omega
    refine mh_aload_5 dL_law_520 (q := 522) rfl ?_
    refine mh_iconst_0 dL_law_522 (q := 523) rfl ?_
    refine mh_iald dL_law_523 (q := 524) rfl hU.1 (vp_in_nI (n := 0) (by decide) (by decide)) ?_
    rw [hU.2.1]
    refine mh_bipush (v := 60) dL_law_524 (q := 526) rfl (by decide) ?_
    refine mh_icmp_le dL_law_526 (tgt := 532) (q := 529) rfl rfl (fun c60 => ?_) (fun c60 => ?_)
    · skip
      refine mh_aload_1 dL_law_532 (q := 533) rfl ?_
      refine mh_iconst_0 dL_law_533 (q := 534) rfl ?_
      refine mh_iload_8 dL_law_534 (q := 536) rfl ?_
      refine mh_iload_10 dL_law_536 (q := 538) rfl ?_
      refine mh_iload_11 dL_law_538 (q := 540) rfl ?_
      refine mh_iload_15 dL_law_540 (q := 542) rfl ?_
      refine mh_iconst_2 dL_law_542 (q := 543) rfl ?_
      refine mh_icmp_ne dL_law_543 (tgt := 558) (q := 546) rfl rfl (fun d2 => ?_) (fun d2 => ?_)
      · skip
        refine mh_iconst_0 dL_law_558 (q := 559) rfl ?_
        refine mh_callV5 ca_L_law_559 (shX6_0 hI.k6) (q := 562) rfl (by simp [Value.category]) ⟨(show 1 ≤ kc from hkc), (show 5 ≤ ks from hks)⟩ ?_
        refine lw_report hI hr ht (Or.inl rfl) (by omega) (fun S F P hI hs => ?_)
        replace hU : lwOut S I 33 _ _ _ _ _ := ⟨hs _ _ hU.1, hU.2⟩
        refine mh_istore_16 dL_law_562 (q := 564) rfl ?_
        refine mh_iload_16 dL_law_564 (q := 566) rfl ?_
        refine mh_if_lt dL_law_566 (tgt := 627) (q := 569) rfl rfl (fun hh => absurd hh (nI_pos (by omega))) (fun _ => ?_)
        refine mh_iload_15 dL_law_569 (q := 571) rfl ?_
        refine mh_iconst_2 dL_law_571 (q := 572) rfl ?_
        refine mh_icmp_ne dL_law_572 (tgt := 600) (q := 575) rfl rfl (fun _ => ?_) (fun hh => absurd hh d2)
        refine mh_iload_15 dL_law_600 (q := 602) rfl ?_
        refine mh_iconst_2 dL_law_602 (q := 603) rfl ?_
        refine mh_icmp_ne dL_law_603 (tgt := 629) (q := 606) rfl rfl (fun _ => ?_) (fun hh => absurd hh d2)
        exact kk S F I P _ _ (kc - 1) (ks - 5) (by omega) (by omega) (by omega) hI _ _ _ _ _ _ _ _ _ _ _ _
      · skip
        refine mh_aload_5 dL_law_546 (q := 548) rfl ?_
        refine mh_iconst_4 dL_law_548 (q := 549) rfl ?_
        refine mh_iald dL_law_549 (q := 550) rfl hU.1 (vp_in_nI (n := 4) (by decide) (by decide)) ?_
        rw [hU.2.2.2.2.2]
        refine mh_iconst_1 dL_law_550 (q := 551) rfl ?_
        refine mh_icmp_ne dL_law_551 (tgt := 558) (q := 554) rfl rfl (fun d1 => ?_) (fun d1 => ?_)
        · skip
          refine mh_iconst_0 dL_law_558 (q := 559) rfl ?_
          refine mh_callV5 ca_L_law_559 (shX6_0 hI.k6) (q := 562) rfl (by simp [Value.category]) ⟨(show 1 ≤ kc from hkc), (show 5 ≤ ks from hks)⟩ ?_
          refine lw_report hI hr ht (Or.inl rfl) (by omega) (fun S F P hI hs => ?_)
          replace hU : lwOut S I 33 _ _ _ _ _ := ⟨hs _ _ hU.1, hU.2⟩
          refine mh_istore_16 dL_law_562 (q := 564) rfl ?_
          refine mh_iload_16 dL_law_564 (q := 566) rfl ?_
          refine mh_if_lt dL_law_566 (tgt := 627) (q := 569) rfl rfl (fun hh => absurd hh (nI_pos (by omega))) (fun _ => ?_)
          refine mh_iload_15 dL_law_569 (q := 571) rfl ?_
          refine mh_iconst_2 dL_law_571 (q := 572) rfl ?_
          refine mh_icmp_ne dL_law_572 (tgt := 600) (q := 575) rfl rfl (fun hh => absurd d2 hh) (fun _ => ?_)
          refine mh_aload_5 dL_law_575 (q := 577) rfl ?_
          refine mh_iconst_4 dL_law_577 (q := 578) rfl ?_
          refine mh_iald dL_law_578 (q := 579) rfl hU.1 (vp_in_nI (n := 4) (by decide) (by decide)) ?_
          rw [hU.2.2.2.2.2]
          refine mh_iconst_1 dL_law_579 (q := 580) rfl ?_
          refine mh_icmp_ne dL_law_580 (tgt := 600) (q := 583) rfl rfl (fun _ => ?_) (fun hh => absurd hh d1)
          refine mh_iload_15 dL_law_600 (q := 602) rfl ?_
          refine mh_iconst_2 dL_law_602 (q := 603) rfl ?_
          refine mh_icmp_ne dL_law_603 (tgt := 629) (q := 606) rfl rfl (fun hh => absurd d2 hh) (fun _ => ?_)
          refine mh_aload_5 dL_law_606 (q := 608) rfl ?_
          refine mh_iconst_4 dL_law_608 (q := 609) rfl ?_
          refine mh_iald dL_law_609 (q := 610) rfl hU.1 (vp_in_nI (n := 4) (by decide) (by decide)) ?_
          rw [hU.2.2.2.2.2]
          refine mh_if_ne dL_law_610 (tgt := 629) (q := 613) rfl rfl (fun e0 => ?_) (fun e0 => ?_)
          · skip
            exact kk S F I P _ _ (kc - 1) (ks - 5) (by omega) (by omega) (by omega) hI _ _ _ _ _ _ _ _ _ _ _ _
          · skip
            refine mh_aload_1 dL_law_613 (q := 614) rfl ?_
            refine mh_iconst_0 dL_law_614 (q := 615) rfl ?_
            refine mh_callV1 ca_L_law_615 (shX6_0 hI.k6) (q := 618) rfl (by simp [Value.category]) ⟨Nat.zero_le _, Nat.zero_le _⟩ ?_
            refine lw_spots hI (fun F I hI hu => ?_)
            have hU := hU.keep hu
            refine mh_iconst_1 dL_law_618 (q := 619) rfl ?_
            refine mh_iload_4 dL_law_619 (q := 621) rfl ?_
            refine mh_ishl dL_law_621 (q := 622) rfl ?_
            refine mh_iconst_1 dL_law_622 (q := 623) rfl ?_
            refine mh_isub dL_law_623 (q := 624) rfl ?_
            refine mh_icmp_le dL_law_624 (tgt := 629) (q := 627) rfl rfl (fun _ => ?_) (fun hh => absurd (spSt_le hI.g _) hh)
            exact kk S F I P _ _ (kc - 1) (ks - 5) (by omega) (by omega) (by omega) hI _ _ _ _ _ _ _ _ _ _ _ _
        · skip
          refine mh_iconst_1 dL_law_554 (q := 555) rfl ?_
          refine mh_goto dL_law_555 (tgt := 559) rfl ?_
          refine mh_callV5 ca_L_law_559 (shX6_0 hI.k6) (q := 562) rfl (by simp [Value.category]) ⟨(show 1 ≤ kc from hkc), (show 5 ≤ ks from hks)⟩ ?_
          refine lw_report hI hr ht (Or.inr rfl) (by omega) (fun S F P hI hs => ?_)
          replace hU : lwOut S I 33 _ _ _ _ _ := ⟨hs _ _ hU.1, hU.2⟩
          refine mh_istore_16 dL_law_562 (q := 564) rfl ?_
          refine mh_iload_16 dL_law_564 (q := 566) rfl ?_
          refine mh_if_lt dL_law_566 (tgt := 627) (q := 569) rfl rfl (fun hh => absurd hh (nI_pos (by omega))) (fun _ => ?_)
          refine mh_iload_15 dL_law_569 (q := 571) rfl ?_
          refine mh_iconst_2 dL_law_571 (q := 572) rfl ?_
          refine mh_icmp_ne dL_law_572 (tgt := 600) (q := 575) rfl rfl (fun hh => absurd d2 hh) (fun _ => ?_)
          refine mh_aload_5 dL_law_575 (q := 577) rfl ?_
          refine mh_iconst_4 dL_law_577 (q := 578) rfl ?_
          refine mh_iald dL_law_578 (q := 579) rfl hU.1 (vp_in_nI (n := 4) (by decide) (by decide)) ?_
          rw [hU.2.2.2.2.2]
          refine mh_iconst_1 dL_law_579 (q := 580) rfl ?_
          refine mh_icmp_ne dL_law_580 (tgt := 600) (q := 583) rfl rfl (fun hh => absurd d1 hh) (fun _ => ?_)
          refine mh_aload_1 dL_law_583 (q := 584) rfl ?_
          refine mh_iconst_0 dL_law_584 (q := 585) rfl ?_
          refine mh_callV1 ca_L_law_585 (shX6_0 hI.k6) (q := 588) rfl (by simp [Value.category]) ⟨Nat.zero_le _, Nat.zero_le _⟩ ?_
          refine lw_spots hI (fun F I hI hu => ?_)
          have hU := hU.keep hu
          refine mh_iconst_1 dL_law_588 (q := 589) rfl ?_
          refine mh_aload_5 dL_law_589 (q := 591) rfl ?_
          refine mh_iconst_2 dL_law_591 (q := 592) rfl ?_
          refine mh_iald dL_law_592 (q := 593) rfl hU.1 (vp_in_nI (n := 2) (by decide) (by decide)) ?_
          rw [hU.2.2.2.1]
          refine mh_ishl dL_law_593 (q := 594) rfl ?_
          refine mh_iconst_m1 dL_law_594 (q := 595) rfl ?_
          refine mh_ixor dL_law_595 (q := 596) rfl ?_
          refine mh_iand dL_law_596 (q := 597) rfl ?_
          refine mh_if_ne dL_law_597 (tgt := 627) (q := 600) rfl rfl (fun hh => absurd (spSt_last (by have := hrb; omega) (him d2 d1)) hh) (fun _ => ?_)
          refine mh_iload_15 dL_law_600 (q := 602) rfl ?_
          refine mh_iconst_2 dL_law_602 (q := 603) rfl ?_
          refine mh_icmp_ne dL_law_603 (tgt := 629) (q := 606) rfl rfl (fun hh => absurd d2 hh) (fun _ => ?_)
          refine mh_aload_5 dL_law_606 (q := 608) rfl ?_
          refine mh_iconst_4 dL_law_608 (q := 609) rfl ?_
          refine mh_iald dL_law_609 (q := 610) rfl hU.1 (vp_in_nI (n := 4) (by decide) (by decide)) ?_
          rw [hU.2.2.2.2.2]
          refine mh_if_ne dL_law_610 (tgt := 629) (q := 613) rfl rfl (fun _ => ?_) (fun hh => absurd hh (by rw [d1]; decide))
          exact kk S F I P _ _ (kc - 1) (ks - 5) (by omega) (by omega) (by omega) hI _ _ _ _ _ _ _ _ _ _ _ _
    · skip
      refine mh_goto dL_law_529 (tgt := 629) rfl ?_
      exact kk S F I P _ _ kc ks (by omega) (by omega) (by omega) hI _ _ _ _ _ _ _ _ _ _ _ _
