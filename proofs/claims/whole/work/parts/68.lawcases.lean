/-! the law: its script, its cases -/
section MHLAW
variable {l : Launch} {K : mhX} {M : mhM} {kc ks : Nat} {Φ : mhQ} {pc q : Nat} {lo : List (Option Value)} {st : List Value} {S : List mhS} {F : mhF} {I : mhI} {J : mhJ} {P : mhP}
theorem mh_sld {z : Nat} {i : Int32} (hd : decode M.2.1 pc = .ok (.iaload, 1)) (hq : pc + 1 = q) (hn : M.1.name = "law") (hin : vp_in i K.2.2.2.2.1) (kk : mhV l K M kc ks Φ q lo (.int (K.2.2.2.2.2 i.toNatClampNeg) :: st) S F I J P) : mhV l K M kc ks Φ pc lo (.int i :: .retAddr z :: st) S F I J P := by
  intro p e s m args below meth c Q MC MS hF h1 h2 hR H locs cells slots ls hrp hS' hl hc hs
  subst hq
  have hX := hF.2.2.2.2.2.2.2.2 hn
  exact va_sld hF.1 hF.2.1 hX.1 hX.2.1 (Nat.not_le.mpr hX.2.2) hS' hin hd (kk p e s m args below meth c Q MC MS hF h1 h2 hR H locs cells slots ls hrp hS' hl hc hs)
theorem mh_slen {z : Nat} (hd : decode M.2.1 pc = .ok (.arraylength, 1)) (hq : pc + 1 = q) (hn : M.1.name = "law") (kk : mhV l K M kc ks Φ q lo (.int (nI K.2.2.2.2.1) :: st) S F I J P) : mhV l K M kc ks Φ pc lo (.retAddr z :: st) S F I J P := by
  intro p e s m args below meth c Q MC MS hF h1 h2 hR H locs cells slots ls hrp hS' hl hc hs
  subst hq
  have hX := hF.2.2.2.2.2.2.2.2 hn
  exact va_slen hF.1 hF.2.1 hX.1 hX.2.1 (Nat.not_le.mpr hX.2.2) hS' hd (kk p e s m args below meth c Q MC MS hF h1 h2 hR H locs cells slots ls hrp hS' hl hc hs)
end MHLAW
theorem sI0 {t L : Nat} (h9 : t + 9 ≤ L) (h46 : L ≤ 4608) : vp_in (nI t) L := vp_in_nI (by omega) (by omega)
theorem sIn {t L k : Nat} (h9 : t + 9 ≤ L) (h46 : L ≤ 4608) (hk : k < 9) : vp_in (nI t + nI k) L := by rw [nI_add]; exact vp_in_nI (by omega) (by omega)
theorem mhIv.s6 {S : List mhS} {F : mhF} {I : mhI} {P : mhP} (h : mhIv S F I P) : mhKX6 S := by
  obtain ⟨nh, wd, hg, aH, kd, sm, so, ln, cl, nr, aR, rp, np, pf, nw, aW, wk, tr, fa, hC, hR, hV, hq⟩ := h
  exact hC.2.1.1.1
theorem lg_cmp_rfl (x : Int64) : lg_cmp x x = 0 := by unfold lg_cmp; simp
set_option maxHeartbeats 4000000 in
set_option maxRecDepth 100000 in
theorem law_c0 {l : Launch} {K : mhX} {kc ks t : Nat} {Φ : mhQ} {S : List mhS} {F : mhF} {I : mhI} {J : mhJ} {P : mhP} (hI : mhIv S F I P) (h9 : t + 9 ≤ K.2.2.2.2.1) (h46 : K.2.2.2.2.1 ≤ 4608) (hkc : 11 ≤ kc) (hks : 359 ≤ ks) (kk : ∀ (kc2 ks2 : Nat), kc ≤ kc2 + 11 → ks ≤ ks2 + 359 → ∀ (S : List mhS) (F : mhF) (I : mhI) (J : mhJ) (P : mhP), mhIv S F I P → mhV l K mL_law kc2 ks2 Φ 1565 [some (.retAddr 0), some (.ref 0), some (.ref 21), some (.int (nI t))] [] S F I J P) : mhV l K mL_law kc ks Φ 180 [some (.retAddr 0), some (.ref 0), some (.ref 21), some (.int (nI t))] [] S F I J P := by
  have bc : mX6_house.2.2.2.2.cells + mX7_house.2.2.2.2.cells ≤ 11 := by decide
  have bs : mX6_house.2.2.2.2.slots + mX7_house.2.2.2.2.slots ≤ 359 := by decide
  refine mh_aload_1 dL_law_180 (q := 181) rfl ?_
  refine mh_aloadT_0 dL_law_181 (q := 182) rfl ?_
  refine mh_iload_3 dL_law_182 (q := 183) rfl ?_
  refine mh_iconst_1 dL_law_183 (q := 184) rfl ?_
  refine mh_iadd dL_law_184 (q := 185) rfl ?_
  refine mh_sld dL_law_185 (q := 186) rfl rfl (sIn (k := 1) h9 h46 (by decide)) ?_
  refine mh_aloadT_0 dL_law_186 (q := 187) rfl ?_
  refine mh_iload_3 dL_law_187 (q := 188) rfl ?_
  refine mh_iconst_2 dL_law_188 (q := 189) rfl ?_
  refine mh_iadd dL_law_189 (q := 190) rfl ?_
  refine mh_sld dL_law_190 (q := 191) rfl rfl (sIn (k := 2) h9 h46 (by decide)) ?_
  refine mh_aloadT_0 dL_law_191 (q := 192) rfl ?_
  refine mh_iload_3 dL_law_192 (q := 193) rfl ?_
  refine mh_iconst_3 dL_law_193 (q := 194) rfl ?_
  refine mh_iadd dL_law_194 (q := 195) rfl ?_
  refine mh_sld dL_law_195 (q := 196) rfl rfl (sIn (k := 3) h9 h46 (by decide)) ?_
  refine mh_aloadT_0 dL_law_196 (q := 197) rfl ?_
  refine mh_iload_3 dL_law_197 (q := 198) rfl ?_
  refine mh_iconst_4 dL_law_198 (q := 199) rfl ?_
  refine mh_iadd dL_law_199 (q := 200) rfl ?_
  refine mh_sld dL_law_200 (q := 201) rfl rfl (sIn (k := 4) h9 h46 (by decide)) ?_
  refine mh_callV4 ca_L_law_201 (shX6_0 hI.s6) (q := 204) rfl (by simp [Value.category]) ⟨by omega, by omega⟩ ?_
  refine pr_house (Ψ := fun x v S F I J P => mhV l K mL_law (kc - mX6_house.2.2.2.2.cells - mX7_house.2.2.2.2.cells) (ks - mX6_house.2.2.2.2.slots - mX7_house.2.2.2.2.slots) Φ 228 [some (.retAddr 0), some (.ref 0), some (.ref 21), some (.int (nI t))] (v.toList ++ [.int x]) S F I J P) hI (fun x S F I J P h7 hk2 => ?_) (fun x S F I J P hI => ?_)
  · skip
    refine mh_aload_2 dL_law_204 (q := 205) rfl ?_
    refine mh_aloadT_0 dL_law_205 (q := 206) rfl ?_
    refine mh_iload_3 dL_law_206 (q := 207) rfl ?_
    refine mh_iconst_1 dL_law_207 (q := 208) rfl ?_
    refine mh_iadd dL_law_208 (q := 209) rfl ?_
    refine mh_sld dL_law_209 (q := 210) rfl rfl (sIn (k := 1) h9 h46 (by decide)) ?_
    refine mh_aloadT_0 dL_law_210 (q := 211) rfl ?_
    refine mh_iload_3 dL_law_211 (q := 212) rfl ?_
    refine mh_iconst_2 dL_law_212 (q := 213) rfl ?_
    refine mh_iadd dL_law_213 (q := 214) rfl ?_
    refine mh_sld dL_law_214 (q := 215) rfl rfl (sIn (k := 2) h9 h46 (by decide)) ?_
    refine mh_aloadT_0 dL_law_215 (q := 216) rfl ?_
    refine mh_iload_3 dL_law_216 (q := 217) rfl ?_
    refine mh_iconst_3 dL_law_217 (q := 218) rfl ?_
    refine mh_iadd dL_law_218 (q := 219) rfl ?_
    refine mh_sld dL_law_219 (q := 220) rfl rfl (sIn (k := 3) h9 h46 (by decide)) ?_
    refine mh_aloadT_0 dL_law_220 (q := 221) rfl ?_
    refine mh_iload_3 dL_law_221 (q := 222) rfl ?_
    refine mh_iconst_4 dL_law_222 (q := 223) rfl ?_
    refine mh_iadd dL_law_223 (q := 224) rfl ?_
    refine mh_sld dL_law_224 (q := 225) rfl rfl (sIn (k := 4) h9 h46 (by decide)) ?_
    refine mh_callV4 ca_L_law_225 (shX7_0 h7) (q := 228) rfl (by simp [Value.category]) ⟨by omega, by omega⟩ ?_
    exact hk2
  · skip
    refine mh_icmp_eq dL_law_228 (tgt := 1565) (q := 231) rfl rfl (fun _ => ?_) (fun hh => absurd rfl hh)
    exact kk _ _ (by omega) (by omega) _ _ _ _ _ hI
set_option maxHeartbeats 4000000 in
set_option maxRecDepth 100000 in
theorem law_c1 {l : Launch} {K : mhX} {kc ks t : Nat} {Φ : mhQ} {S : List mhS} {F : mhF} {I : mhI} {J : mhJ} {P : mhP} (hI : mhIv S F I P) (h9 : t + 9 ≤ K.2.2.2.2.1) (h46 : K.2.2.2.2.1 ≤ 4608) (hkc : 11 ≤ kc) (hks : 359 ≤ ks) (kk : ∀ (kc2 ks2 : Nat), kc ≤ kc2 + 11 → ks ≤ ks2 + 359 → ∀ (S : List mhS) (F : mhF) (I : mhI) (J : mhJ) (P : mhP), mhIv S F I P → mhV l K mL_law kc2 ks2 Φ 1565 [some (.retAddr 0), some (.ref 0), some (.ref 21), some (.int (nI t))] [] S F I J P) : mhV l K mL_law kc ks Φ 233 [some (.retAddr 0), some (.ref 0), some (.ref 21), some (.int (nI t))] [] S F I J P := by
  have bc : mX6_ofHouse.2.2.2.2.cells + mX7_ofHouse.2.2.2.2.cells ≤ 11 := by decide
  have bs : mX6_ofHouse.2.2.2.2.slots + mX7_ofHouse.2.2.2.2.slots ≤ 359 := by decide
  refine mh_aload_1 dL_law_233 (q := 234) rfl ?_
  refine mh_aloadT_0 dL_law_234 (q := 235) rfl ?_
  refine mh_iload_3 dL_law_235 (q := 236) rfl ?_
  refine mh_iconst_1 dL_law_236 (q := 237) rfl ?_
  refine mh_iadd dL_law_237 (q := 238) rfl ?_
  refine mh_sld dL_law_238 (q := 239) rfl rfl (sIn (k := 1) h9 h46 (by decide)) ?_
  refine mh_aloadT_0 dL_law_239 (q := 240) rfl ?_
  refine mh_iload_3 dL_law_240 (q := 241) rfl ?_
  refine mh_iconst_2 dL_law_241 (q := 242) rfl ?_
  refine mh_iadd dL_law_242 (q := 243) rfl ?_
  refine mh_sld dL_law_243 (q := 244) rfl rfl (sIn (k := 2) h9 h46 (by decide)) ?_
  refine mh_callV2 ca_L_law_244 (shX6_0 hI.s6) (q := 247) rfl (by simp [Value.category]) ⟨by omega, by omega⟩ ?_
  refine pr_ofHouse (Ψ := fun x v S F I J P => mhV l K mL_law (kc - mX6_ofHouse.2.2.2.2.cells - mX7_ofHouse.2.2.2.2.cells) (ks - mX6_ofHouse.2.2.2.2.slots - mX7_ofHouse.2.2.2.2.slots) Φ 261 [some (.retAddr 0), some (.ref 0), some (.ref 21), some (.int (nI t))] (v.toList ++ [.int x]) S F I J P) hI (fun x S F I J P h7 hk2 => ?_) (fun x S F I J P hI => ?_)
  · skip
    refine mh_aload_2 dL_law_247 (q := 248) rfl ?_
    refine mh_aloadT_0 dL_law_248 (q := 249) rfl ?_
    refine mh_iload_3 dL_law_249 (q := 250) rfl ?_
    refine mh_iconst_1 dL_law_250 (q := 251) rfl ?_
    refine mh_iadd dL_law_251 (q := 252) rfl ?_
    refine mh_sld dL_law_252 (q := 253) rfl rfl (sIn (k := 1) h9 h46 (by decide)) ?_
    refine mh_aloadT_0 dL_law_253 (q := 254) rfl ?_
    refine mh_iload_3 dL_law_254 (q := 255) rfl ?_
    refine mh_iconst_2 dL_law_255 (q := 256) rfl ?_
    refine mh_iadd dL_law_256 (q := 257) rfl ?_
    refine mh_sld dL_law_257 (q := 258) rfl rfl (sIn (k := 2) h9 h46 (by decide)) ?_
    refine mh_callV2 ca_L_law_258 (shX7_0 h7) (q := 261) rfl (by simp [Value.category]) ⟨by omega, by omega⟩ ?_
    exact hk2
  · skip
    refine mh_icmp_eq dL_law_261 (tgt := 1565) (q := 264) rfl rfl (fun _ => ?_) (fun hh => absurd rfl hh)
    exact kk _ _ (by omega) (by omega) _ _ _ _ _ hI
set_option maxHeartbeats 4000000 in
set_option maxRecDepth 100000 in
theorem law_c2 {l : Launch} {K : mhX} {kc ks t : Nat} {Φ : mhQ} {S : List mhS} {F : mhF} {I : mhI} {J : mhJ} {P : mhP} (hI : mhIv S F I P) (h9 : t + 9 ≤ K.2.2.2.2.1) (h46 : K.2.2.2.2.1 ≤ 4608) (hkc : 11 ≤ kc) (hks : 359 ≤ ks) (kk : ∀ (kc2 ks2 : Nat), kc ≤ kc2 + 11 → ks ≤ ks2 + 359 → ∀ (S : List mhS) (F : mhF) (I : mhI) (J : mhJ) (P : mhP), mhIv S F I P → mhV l K mL_law kc2 ks2 Φ 1565 [some (.retAddr 0), some (.ref 0), some (.ref 21), some (.int (nI t))] [] S F I J P) : mhV l K mL_law kc ks Φ 266 [some (.retAddr 0), some (.ref 0), some (.ref 21), some (.int (nI t))] [] S F I J P := by
  have bc : mX6_ofSide.2.2.2.2.cells + mX7_ofSide.2.2.2.2.cells ≤ 11 := by decide
  have bs : mX6_ofSide.2.2.2.2.slots + mX7_ofSide.2.2.2.2.slots ≤ 359 := by decide
  refine mh_aload_1 dL_law_266 (q := 267) rfl ?_
  refine mh_aloadT_0 dL_law_267 (q := 268) rfl ?_
  refine mh_iload_3 dL_law_268 (q := 269) rfl ?_
  refine mh_iconst_1 dL_law_269 (q := 270) rfl ?_
  refine mh_iadd dL_law_270 (q := 271) rfl ?_
  refine mh_sld dL_law_271 (q := 272) rfl rfl (sIn (k := 1) h9 h46 (by decide)) ?_
  refine mh_aloadT_0 dL_law_272 (q := 273) rfl ?_
  refine mh_iload_3 dL_law_273 (q := 274) rfl ?_
  refine mh_iconst_2 dL_law_274 (q := 275) rfl ?_
  refine mh_iadd dL_law_275 (q := 276) rfl ?_
  refine mh_sld dL_law_276 (q := 277) rfl rfl (sIn (k := 2) h9 h46 (by decide)) ?_
  refine mh_aloadT_0 dL_law_277 (q := 278) rfl ?_
  refine mh_iload_3 dL_law_278 (q := 279) rfl ?_
  refine mh_iconst_3 dL_law_279 (q := 280) rfl ?_
  refine mh_iadd dL_law_280 (q := 281) rfl ?_
  refine mh_sld dL_law_281 (q := 282) rfl rfl (sIn (k := 3) h9 h46 (by decide)) ?_
  refine mh_callV3 ca_L_law_282 (shX6_0 hI.s6) (q := 285) rfl (by simp [Value.category]) ⟨by omega, by omega⟩ ?_
  refine pr_ofSide (Ψ := fun x v S F I J P => mhV l K mL_law (kc - mX6_ofSide.2.2.2.2.cells - mX7_ofSide.2.2.2.2.cells) (ks - mX6_ofSide.2.2.2.2.slots - mX7_ofSide.2.2.2.2.slots) Φ 304 [some (.retAddr 0), some (.ref 0), some (.ref 21), some (.int (nI t))] (v.toList ++ [.int x]) S F I J P) hI (fun x S F I J P h7 hk2 => ?_) (fun x S F I J P hI => ?_)
  · skip
    refine mh_aload_2 dL_law_285 (q := 286) rfl ?_
    refine mh_aloadT_0 dL_law_286 (q := 287) rfl ?_
    refine mh_iload_3 dL_law_287 (q := 288) rfl ?_
    refine mh_iconst_1 dL_law_288 (q := 289) rfl ?_
    refine mh_iadd dL_law_289 (q := 290) rfl ?_
    refine mh_sld dL_law_290 (q := 291) rfl rfl (sIn (k := 1) h9 h46 (by decide)) ?_
    refine mh_aloadT_0 dL_law_291 (q := 292) rfl ?_
    refine mh_iload_3 dL_law_292 (q := 293) rfl ?_
    refine mh_iconst_2 dL_law_293 (q := 294) rfl ?_
    refine mh_iadd dL_law_294 (q := 295) rfl ?_
    refine mh_sld dL_law_295 (q := 296) rfl rfl (sIn (k := 2) h9 h46 (by decide)) ?_
    refine mh_aloadT_0 dL_law_296 (q := 297) rfl ?_
    refine mh_iload_3 dL_law_297 (q := 298) rfl ?_
    refine mh_iconst_3 dL_law_298 (q := 299) rfl ?_
    refine mh_iadd dL_law_299 (q := 300) rfl ?_
    refine mh_sld dL_law_300 (q := 301) rfl rfl (sIn (k := 3) h9 h46 (by decide)) ?_
    refine mh_callV3 ca_L_law_301 (shX7_0 h7) (q := 304) rfl (by simp [Value.category]) ⟨by omega, by omega⟩ ?_
    exact hk2
  · skip
    refine mh_icmp_eq dL_law_304 (tgt := 1565) (q := 307) rfl rfl (fun _ => ?_) (fun hh => absurd rfl hh)
    exact kk _ _ (by omega) (by omega) _ _ _ _ _ hI
set_option maxHeartbeats 4000000 in
set_option maxRecDepth 100000 in
theorem law_c3 {l : Launch} {K : mhX} {kc ks t : Nat} {Φ : mhQ} {S : List mhS} {F : mhF} {I : mhI} {J : mhJ} {P : mhP} (hI : mhIv S F I P) (h9 : t + 9 ≤ K.2.2.2.2.1) (h46 : K.2.2.2.2.1 ≤ 4608) (hkc : 11 ≤ kc) (hks : 359 ≤ ks) (kk : ∀ (kc2 ks2 : Nat), kc ≤ kc2 + 11 → ks ≤ ks2 + 359 → ∀ (S : List mhS) (F : mhF) (I : mhI) (J : mhJ) (P : mhP), mhIv S F I P → mhV l K mL_law kc2 ks2 Φ 1565 [some (.retAddr 0), some (.ref 0), some (.ref 21), some (.int (nI t))] [] S F I J P) : mhV l K mL_law kc ks Φ 309 [some (.retAddr 0), some (.ref 0), some (.ref 21), some (.int (nI t))] [] S F I J P := by
  have bc : mX6_side.2.2.2.2.cells + mX7_side.2.2.2.2.cells ≤ 11 := by decide
  have bs : mX6_side.2.2.2.2.slots + mX7_side.2.2.2.2.slots ≤ 359 := by decide
  refine mh_aload_1 dL_law_309 (q := 310) rfl ?_
  refine mh_aloadT_0 dL_law_310 (q := 311) rfl ?_
  refine mh_iload_3 dL_law_311 (q := 312) rfl ?_
  refine mh_iconst_1 dL_law_312 (q := 313) rfl ?_
  refine mh_iadd dL_law_313 (q := 314) rfl ?_
  refine mh_sld dL_law_314 (q := 315) rfl rfl (sIn (k := 1) h9 h46 (by decide)) ?_
  refine mh_aloadT_0 dL_law_315 (q := 316) rfl ?_
  refine mh_iload_3 dL_law_316 (q := 317) rfl ?_
  refine mh_iconst_2 dL_law_317 (q := 318) rfl ?_
  refine mh_iadd dL_law_318 (q := 319) rfl ?_
  refine mh_sld dL_law_319 (q := 320) rfl rfl (sIn (k := 2) h9 h46 (by decide)) ?_
  refine mh_aloadT_0 dL_law_320 (q := 321) rfl ?_
  refine mh_iload_3 dL_law_321 (q := 322) rfl ?_
  refine mh_iconst_3 dL_law_322 (q := 323) rfl ?_
  refine mh_iadd dL_law_323 (q := 324) rfl ?_
  refine mh_sld dL_law_324 (q := 325) rfl rfl (sIn (k := 3) h9 h46 (by decide)) ?_
  refine mh_callV3 ca_L_law_325 (shX6_0 hI.s6) (q := 328) rfl (by simp [Value.category]) ⟨by omega, by omega⟩ ?_
  refine pr_side (Ψ := fun x v S F I J P => mhV l K mL_law (kc - mX6_side.2.2.2.2.cells - mX7_side.2.2.2.2.cells) (ks - mX6_side.2.2.2.2.slots - mX7_side.2.2.2.2.slots) Φ 347 [some (.retAddr 0), some (.ref 0), some (.ref 21), some (.int (nI t))] (v.toList ++ [.int x]) S F I J P) hI (fun x S F I J P h7 hk2 => ?_) (fun x S F I J P hI => ?_)
  · skip
    refine mh_aload_2 dL_law_328 (q := 329) rfl ?_
    refine mh_aloadT_0 dL_law_329 (q := 330) rfl ?_
    refine mh_iload_3 dL_law_330 (q := 331) rfl ?_
    refine mh_iconst_1 dL_law_331 (q := 332) rfl ?_
    refine mh_iadd dL_law_332 (q := 333) rfl ?_
    refine mh_sld dL_law_333 (q := 334) rfl rfl (sIn (k := 1) h9 h46 (by decide)) ?_
    refine mh_aloadT_0 dL_law_334 (q := 335) rfl ?_
    refine mh_iload_3 dL_law_335 (q := 336) rfl ?_
    refine mh_iconst_2 dL_law_336 (q := 337) rfl ?_
    refine mh_iadd dL_law_337 (q := 338) rfl ?_
    refine mh_sld dL_law_338 (q := 339) rfl rfl (sIn (k := 2) h9 h46 (by decide)) ?_
    refine mh_aloadT_0 dL_law_339 (q := 340) rfl ?_
    refine mh_iload_3 dL_law_340 (q := 341) rfl ?_
    refine mh_iconst_3 dL_law_341 (q := 342) rfl ?_
    refine mh_iadd dL_law_342 (q := 343) rfl ?_
    refine mh_sld dL_law_343 (q := 344) rfl rfl (sIn (k := 3) h9 h46 (by decide)) ?_
    refine mh_callV3 ca_L_law_344 (shX7_0 h7) (q := 347) rfl (by simp [Value.category]) ⟨by omega, by omega⟩ ?_
    exact hk2
  · skip
    refine mh_icmp_eq dL_law_347 (tgt := 1565) (q := 350) rfl rfl (fun _ => ?_) (fun hh => absurd rfl hh)
    exact kk _ _ (by omega) (by omega) _ _ _ _ _ hI
set_option maxHeartbeats 4000000 in
set_option maxRecDepth 100000 in
theorem law_c4 {l : Launch} {K : mhX} {kc ks t : Nat} {Φ : mhQ} {S : List mhS} {F : mhF} {I : mhI} {J : mhJ} {P : mhP} (hI : mhIv S F I P) (h9 : t + 9 ≤ K.2.2.2.2.1) (h46 : K.2.2.2.2.1 ≤ 4608) (hkc : 11 ≤ kc) (hks : 359 ≤ ks) (kk : ∀ (kc2 ks2 : Nat), kc ≤ kc2 + 11 → ks ≤ ks2 + 359 → ∀ (S : List mhS) (F : mhF) (I : mhI) (J : mhJ) (P : mhP), mhIv S F I P → mhV l K mL_law kc2 ks2 Φ 1565 [some (.retAddr 0), some (.ref 0), some (.ref 21), some (.int (nI t))] [] S F I J P) : mhV l K mL_law kc ks Φ 352 [some (.retAddr 0), some (.ref 0), some (.ref 21), some (.int (nI t))] [] S F I J P := by
  have bc : mX6_pane.2.2.2.2.cells + mX7_pane.2.2.2.2.cells ≤ 11 := by decide
  have bs : mX6_pane.2.2.2.2.slots + mX7_pane.2.2.2.2.slots ≤ 359 := by decide
  refine mh_aload_1 dL_law_352 (q := 353) rfl ?_
  refine mh_aloadT_0 dL_law_353 (q := 354) rfl ?_
  refine mh_iload_3 dL_law_354 (q := 355) rfl ?_
  refine mh_iconst_1 dL_law_355 (q := 356) rfl ?_
  refine mh_iadd dL_law_356 (q := 357) rfl ?_
  refine mh_sld dL_law_357 (q := 358) rfl rfl (sIn (k := 1) h9 h46 (by decide)) ?_
  refine mh_aloadT_0 dL_law_358 (q := 359) rfl ?_
  refine mh_iload_3 dL_law_359 (q := 360) rfl ?_
  refine mh_iconst_2 dL_law_360 (q := 361) rfl ?_
  refine mh_iadd dL_law_361 (q := 362) rfl ?_
  refine mh_sld dL_law_362 (q := 363) rfl rfl (sIn (k := 2) h9 h46 (by decide)) ?_
  refine mh_aloadT_0 dL_law_363 (q := 364) rfl ?_
  refine mh_iload_3 dL_law_364 (q := 365) rfl ?_
  refine mh_iconst_3 dL_law_365 (q := 366) rfl ?_
  refine mh_iadd dL_law_366 (q := 367) rfl ?_
  refine mh_sld dL_law_367 (q := 368) rfl rfl (sIn (k := 3) h9 h46 (by decide)) ?_
  refine mh_callV3 ca_L_law_368 (shX6_0 hI.s6) (q := 371) rfl (by simp [Value.category]) ⟨by omega, by omega⟩ ?_
  refine pr_pane (Ψ := fun x v S F I J P => mhV l K mL_law (kc - mX6_pane.2.2.2.2.cells - mX7_pane.2.2.2.2.cells) (ks - mX6_pane.2.2.2.2.slots - mX7_pane.2.2.2.2.slots) Φ 390 [some (.retAddr 0), some (.ref 0), some (.ref 21), some (.int (nI t))] (v.toList ++ [.int x]) S F I J P) hI (fun x S F I J P h7 hk2 => ?_) (fun x S F I J P hI => ?_)
  · skip
    refine mh_aload_2 dL_law_371 (q := 372) rfl ?_
    refine mh_aloadT_0 dL_law_372 (q := 373) rfl ?_
    refine mh_iload_3 dL_law_373 (q := 374) rfl ?_
    refine mh_iconst_1 dL_law_374 (q := 375) rfl ?_
    refine mh_iadd dL_law_375 (q := 376) rfl ?_
    refine mh_sld dL_law_376 (q := 377) rfl rfl (sIn (k := 1) h9 h46 (by decide)) ?_
    refine mh_aloadT_0 dL_law_377 (q := 378) rfl ?_
    refine mh_iload_3 dL_law_378 (q := 379) rfl ?_
    refine mh_iconst_2 dL_law_379 (q := 380) rfl ?_
    refine mh_iadd dL_law_380 (q := 381) rfl ?_
    refine mh_sld dL_law_381 (q := 382) rfl rfl (sIn (k := 2) h9 h46 (by decide)) ?_
    refine mh_aloadT_0 dL_law_382 (q := 383) rfl ?_
    refine mh_iload_3 dL_law_383 (q := 384) rfl ?_
    refine mh_iconst_3 dL_law_384 (q := 385) rfl ?_
    refine mh_iadd dL_law_385 (q := 386) rfl ?_
    refine mh_sld dL_law_386 (q := 387) rfl rfl (sIn (k := 3) h9 h46 (by decide)) ?_
    refine mh_callV3 ca_L_law_387 (shX7_0 h7) (q := 390) rfl (by simp [Value.category]) ⟨by omega, by omega⟩ ?_
    exact hk2
  · skip
    refine mh_icmp_eq dL_law_390 (tgt := 1565) (q := 393) rfl rfl (fun _ => ?_) (fun hh => absurd rfl hh)
    exact kk _ _ (by omega) (by omega) _ _ _ _ _ hI
set_option maxHeartbeats 4000000 in
set_option maxRecDepth 100000 in
theorem law_c5 {l : Launch} {K : mhX} {kc ks t : Nat} {Φ : mhQ} {S : List mhS} {F : mhF} {I : mhI} {J : mhJ} {P : mhP} (hI : mhIv S F I P) (h9 : t + 9 ≤ K.2.2.2.2.1) (h46 : K.2.2.2.2.1 ≤ 4608) (hkc : 11 ≤ kc) (hks : 359 ≤ ks) (kk : ∀ (kc2 ks2 : Nat), kc ≤ kc2 + 11 → ks ≤ ks2 + 359 → ∀ (S : List mhS) (F : mhF) (I : mhI) (J : mhJ) (P : mhP), mhIv S F I P → mhV l K mL_law kc2 ks2 Φ 1565 [some (.retAddr 0), some (.ref 0), some (.ref 21), some (.int (nI t))] [] S F I J P) : mhV l K mL_law kc ks Φ 395 [some (.retAddr 0), some (.ref 0), some (.ref 21), some (.int (nI t))] [] S F I J P := by
  have bc : mX6_seen.2.2.2.2.cells + mX7_seen.2.2.2.2.cells ≤ 11 := by decide
  have bs : mX6_seen.2.2.2.2.slots + mX7_seen.2.2.2.2.slots ≤ 359 := by decide
  refine mh_aload_1 dL_law_395 (q := 396) rfl ?_
  refine mh_aloadT_0 dL_law_396 (q := 397) rfl ?_
  refine mh_iload_3 dL_law_397 (q := 398) rfl ?_
  refine mh_iconst_1 dL_law_398 (q := 399) rfl ?_
  refine mh_iadd dL_law_399 (q := 400) rfl ?_
  refine mh_sld dL_law_400 (q := 401) rfl rfl (sIn (k := 1) h9 h46 (by decide)) ?_
  refine mh_aloadT_0 dL_law_401 (q := 402) rfl ?_
  refine mh_iload_3 dL_law_402 (q := 403) rfl ?_
  refine mh_iconst_2 dL_law_403 (q := 404) rfl ?_
  refine mh_iadd dL_law_404 (q := 405) rfl ?_
  refine mh_sld dL_law_405 (q := 406) rfl rfl (sIn (k := 2) h9 h46 (by decide)) ?_
  refine mh_aloadT_0 dL_law_406 (q := 407) rfl ?_
  refine mh_iload_3 dL_law_407 (q := 408) rfl ?_
  refine mh_iconst_3 dL_law_408 (q := 409) rfl ?_
  refine mh_iadd dL_law_409 (q := 410) rfl ?_
  refine mh_sld dL_law_410 (q := 411) rfl rfl (sIn (k := 3) h9 h46 (by decide)) ?_
  refine mh_aloadT_0 dL_law_411 (q := 412) rfl ?_
  refine mh_iload_3 dL_law_412 (q := 413) rfl ?_
  refine mh_iconst_4 dL_law_413 (q := 414) rfl ?_
  refine mh_iadd dL_law_414 (q := 415) rfl ?_
  refine mh_sld dL_law_415 (q := 416) rfl rfl (sIn (k := 4) h9 h46 (by decide)) ?_
  refine mh_aloadT_0 dL_law_416 (q := 417) rfl ?_
  refine mh_iload_3 dL_law_417 (q := 418) rfl ?_
  refine mh_iconst_5 dL_law_418 (q := 419) rfl ?_
  refine mh_iadd dL_law_419 (q := 420) rfl ?_
  refine mh_sld dL_law_420 (q := 421) rfl rfl (sIn (k := 5) h9 h46 (by decide)) ?_
  refine mh_aloadT_0 dL_law_421 (q := 422) rfl ?_
  refine mh_iload_3 dL_law_422 (q := 423) rfl ?_
  refine mh_bipush (v := 6) dL_law_423 (q := 425) rfl (by decide) ?_
  refine mh_iadd dL_law_425 (q := 426) rfl ?_
  refine mh_sld dL_law_426 (q := 427) rfl rfl (sIn (k := 6) h9 h46 (by decide)) ?_
  refine mh_callV6 ca_L_law_427 (shX6_0 hI.s6) (q := 430) rfl (by simp [Value.category]) ⟨by omega, by omega⟩ ?_
  refine pr_seen (Ψ := fun x v S F I J P => mhV l K mL_law (kc - mX6_seen.2.2.2.2.cells - mX7_seen.2.2.2.2.cells) (ks - mX6_seen.2.2.2.2.slots - mX7_seen.2.2.2.2.slots) Φ 465 [some (.retAddr 0), some (.ref 0), some (.ref 21), some (.int (nI t))] (v.toList ++ [.int x]) S F I J P) hI (fun x S F I J P h7 hk2 => ?_) (fun x S F I J P hI => ?_)
  · skip
    refine mh_aload_2 dL_law_430 (q := 431) rfl ?_
    refine mh_aloadT_0 dL_law_431 (q := 432) rfl ?_
    refine mh_iload_3 dL_law_432 (q := 433) rfl ?_
    refine mh_iconst_1 dL_law_433 (q := 434) rfl ?_
    refine mh_iadd dL_law_434 (q := 435) rfl ?_
    refine mh_sld dL_law_435 (q := 436) rfl rfl (sIn (k := 1) h9 h46 (by decide)) ?_
    refine mh_aloadT_0 dL_law_436 (q := 437) rfl ?_
    refine mh_iload_3 dL_law_437 (q := 438) rfl ?_
    refine mh_iconst_2 dL_law_438 (q := 439) rfl ?_
    refine mh_iadd dL_law_439 (q := 440) rfl ?_
    refine mh_sld dL_law_440 (q := 441) rfl rfl (sIn (k := 2) h9 h46 (by decide)) ?_
    refine mh_aloadT_0 dL_law_441 (q := 442) rfl ?_
    refine mh_iload_3 dL_law_442 (q := 443) rfl ?_
    refine mh_iconst_3 dL_law_443 (q := 444) rfl ?_
    refine mh_iadd dL_law_444 (q := 445) rfl ?_
    refine mh_sld dL_law_445 (q := 446) rfl rfl (sIn (k := 3) h9 h46 (by decide)) ?_
    refine mh_aloadT_0 dL_law_446 (q := 447) rfl ?_
    refine mh_iload_3 dL_law_447 (q := 448) rfl ?_
    refine mh_iconst_4 dL_law_448 (q := 449) rfl ?_
    refine mh_iadd dL_law_449 (q := 450) rfl ?_
    refine mh_sld dL_law_450 (q := 451) rfl rfl (sIn (k := 4) h9 h46 (by decide)) ?_
    refine mh_aloadT_0 dL_law_451 (q := 452) rfl ?_
    refine mh_iload_3 dL_law_452 (q := 453) rfl ?_
    refine mh_iconst_5 dL_law_453 (q := 454) rfl ?_
    refine mh_iadd dL_law_454 (q := 455) rfl ?_
    refine mh_sld dL_law_455 (q := 456) rfl rfl (sIn (k := 5) h9 h46 (by decide)) ?_
    refine mh_aloadT_0 dL_law_456 (q := 457) rfl ?_
    refine mh_iload_3 dL_law_457 (q := 458) rfl ?_
    refine mh_bipush (v := 6) dL_law_458 (q := 460) rfl (by decide) ?_
    refine mh_iadd dL_law_460 (q := 461) rfl ?_
    refine mh_sld dL_law_461 (q := 462) rfl rfl (sIn (k := 6) h9 h46 (by decide)) ?_
    refine mh_callV6 ca_L_law_462 (shX7_0 h7) (q := 465) rfl (by simp [Value.category]) ⟨by omega, by omega⟩ ?_
    exact hk2
  · skip
    refine mh_icmp_eq dL_law_465 (tgt := 1565) (q := 468) rfl rfl (fun _ => ?_) (fun hh => absurd rfl hh)
    exact kk _ _ (by omega) (by omega) _ _ _ _ _ hI
set_option maxHeartbeats 4000000 in
set_option maxRecDepth 100000 in
theorem law_c6 {l : Launch} {K : mhX} {kc ks t : Nat} {Φ : mhQ} {S : List mhS} {F : mhF} {I : mhI} {J : mhJ} {P : mhP} (hI : mhIv S F I P) (h9 : t + 9 ≤ K.2.2.2.2.1) (h46 : K.2.2.2.2.1 ≤ 4608) (hkc : 11 ≤ kc) (hks : 359 ≤ ks) (kk : ∀ (kc2 ks2 : Nat), kc ≤ kc2 + 11 → ks ≤ ks2 + 359 → ∀ (S : List mhS) (F : mhF) (I : mhI) (J : mhJ) (P : mhP), mhIv S F I P → mhV l K mL_law kc2 ks2 Φ 1565 [some (.retAddr 0), some (.ref 0), some (.ref 21), some (.int (nI t))] [] S F I J P) : mhV l K mL_law kc ks Φ 470 [some (.retAddr 0), some (.ref 0), some (.ref 21), some (.int (nI t))] [] S F I J P := by
  have bc : mX6_met.2.2.2.2.cells + mX7_met.2.2.2.2.cells ≤ 11 := by decide
  have bs : mX6_met.2.2.2.2.slots + mX7_met.2.2.2.2.slots ≤ 359 := by decide
  refine mh_aload_1 dL_law_470 (q := 471) rfl ?_
  refine mh_aloadT_0 dL_law_471 (q := 472) rfl ?_
  refine mh_iload_3 dL_law_472 (q := 473) rfl ?_
  refine mh_iconst_1 dL_law_473 (q := 474) rfl ?_
  refine mh_iadd dL_law_474 (q := 475) rfl ?_
  refine mh_sld dL_law_475 (q := 476) rfl rfl (sIn (k := 1) h9 h46 (by decide)) ?_
  refine mh_aloadT_0 dL_law_476 (q := 477) rfl ?_
  refine mh_iload_3 dL_law_477 (q := 478) rfl ?_
  refine mh_iconst_2 dL_law_478 (q := 479) rfl ?_
  refine mh_iadd dL_law_479 (q := 480) rfl ?_
  refine mh_sld dL_law_480 (q := 481) rfl rfl (sIn (k := 2) h9 h46 (by decide)) ?_
  refine mh_aloadT_0 dL_law_481 (q := 482) rfl ?_
  refine mh_iload_3 dL_law_482 (q := 483) rfl ?_
  refine mh_iconst_3 dL_law_483 (q := 484) rfl ?_
  refine mh_iadd dL_law_484 (q := 485) rfl ?_
  refine mh_sld dL_law_485 (q := 486) rfl rfl (sIn (k := 3) h9 h46 (by decide)) ?_
  refine mh_aloadT_0 dL_law_486 (q := 487) rfl ?_
  refine mh_iload_3 dL_law_487 (q := 488) rfl ?_
  refine mh_iconst_4 dL_law_488 (q := 489) rfl ?_
  refine mh_iadd dL_law_489 (q := 490) rfl ?_
  refine mh_sld dL_law_490 (q := 491) rfl rfl (sIn (k := 4) h9 h46 (by decide)) ?_
  refine mh_aloadT_0 dL_law_491 (q := 492) rfl ?_
  refine mh_iload_3 dL_law_492 (q := 493) rfl ?_
  refine mh_iconst_5 dL_law_493 (q := 494) rfl ?_
  refine mh_iadd dL_law_494 (q := 495) rfl ?_
  refine mh_sld dL_law_495 (q := 496) rfl rfl (sIn (k := 5) h9 h46 (by decide)) ?_
  refine mh_callV5 ca_L_law_496 (shX6_0 hI.s6) (q := 499) rfl (by simp [Value.category]) ⟨by omega, by omega⟩ ?_
  refine pr_met (Ψ := fun x v S F I J P => mhV l K mL_law (kc - mX6_met.2.2.2.2.cells - mX7_met.2.2.2.2.cells) (ks - mX6_met.2.2.2.2.slots - mX7_met.2.2.2.2.slots) Φ 528 [some (.retAddr 0), some (.ref 0), some (.ref 21), some (.int (nI t))] (v.toList ++ [.int x]) S F I J P) hI (fun x S F I J P h7 hk2 => ?_) (fun x S F I J P hI => ?_)
  · skip
    refine mh_aload_2 dL_law_499 (q := 500) rfl ?_
    refine mh_aloadT_0 dL_law_500 (q := 501) rfl ?_
    refine mh_iload_3 dL_law_501 (q := 502) rfl ?_
    refine mh_iconst_1 dL_law_502 (q := 503) rfl ?_
    refine mh_iadd dL_law_503 (q := 504) rfl ?_
    refine mh_sld dL_law_504 (q := 505) rfl rfl (sIn (k := 1) h9 h46 (by decide)) ?_
    refine mh_aloadT_0 dL_law_505 (q := 506) rfl ?_
    refine mh_iload_3 dL_law_506 (q := 507) rfl ?_
    refine mh_iconst_2 dL_law_507 (q := 508) rfl ?_
    refine mh_iadd dL_law_508 (q := 509) rfl ?_
    refine mh_sld dL_law_509 (q := 510) rfl rfl (sIn (k := 2) h9 h46 (by decide)) ?_
    refine mh_aloadT_0 dL_law_510 (q := 511) rfl ?_
    refine mh_iload_3 dL_law_511 (q := 512) rfl ?_
    refine mh_iconst_3 dL_law_512 (q := 513) rfl ?_
    refine mh_iadd dL_law_513 (q := 514) rfl ?_
    refine mh_sld dL_law_514 (q := 515) rfl rfl (sIn (k := 3) h9 h46 (by decide)) ?_
    refine mh_aloadT_0 dL_law_515 (q := 516) rfl ?_
    refine mh_iload_3 dL_law_516 (q := 517) rfl ?_
    refine mh_iconst_4 dL_law_517 (q := 518) rfl ?_
    refine mh_iadd dL_law_518 (q := 519) rfl ?_
    refine mh_sld dL_law_519 (q := 520) rfl rfl (sIn (k := 4) h9 h46 (by decide)) ?_
    refine mh_aloadT_0 dL_law_520 (q := 521) rfl ?_
    refine mh_iload_3 dL_law_521 (q := 522) rfl ?_
    refine mh_iconst_5 dL_law_522 (q := 523) rfl ?_
    refine mh_iadd dL_law_523 (q := 524) rfl ?_
    refine mh_sld dL_law_524 (q := 525) rfl rfl (sIn (k := 5) h9 h46 (by decide)) ?_
    refine mh_callV5 ca_L_law_525 (shX7_0 h7) (q := 528) rfl (by simp [Value.category]) ⟨by omega, by omega⟩ ?_
    exact hk2
  · skip
    refine mh_icmp_eq dL_law_528 (tgt := 1565) (q := 531) rfl rfl (fun _ => ?_) (fun hh => absurd rfl hh)
    exact kk _ _ (by omega) (by omega) _ _ _ _ _ hI
set_option maxHeartbeats 4000000 in
set_option maxRecDepth 100000 in
theorem law_c7 {l : Launch} {K : mhX} {kc ks t : Nat} {Φ : mhQ} {S : List mhS} {F : mhF} {I : mhI} {J : mhJ} {P : mhP} (hI : mhIv S F I P) (h9 : t + 9 ≤ K.2.2.2.2.1) (h46 : K.2.2.2.2.1 ≤ 4608) (hkc : 11 ≤ kc) (hks : 359 ≤ ks) (kk : ∀ (kc2 ks2 : Nat), kc ≤ kc2 + 11 → ks ≤ ks2 + 359 → ∀ (S : List mhS) (F : mhF) (I : mhI) (J : mhJ) (P : mhP), mhIv S F I P → mhV l K mL_law kc2 ks2 Φ 1565 [some (.retAddr 0), some (.ref 0), some (.ref 21), some (.int (nI t))] [] S F I J P) : mhV l K mL_law kc ks Φ 533 [some (.retAddr 0), some (.ref 0), some (.ref 21), some (.int (nI t))] [] S F I J P := by
  have bc : mX6_image.2.2.2.2.cells + mX7_image.2.2.2.2.cells ≤ 11 := by decide
  have bs : mX6_image.2.2.2.2.slots + mX7_image.2.2.2.2.slots ≤ 359 := by decide
  refine mh_aload_1 dL_law_533 (q := 534) rfl ?_
  refine mh_aloadT_0 dL_law_534 (q := 535) rfl ?_
  refine mh_iload_3 dL_law_535 (q := 536) rfl ?_
  refine mh_iconst_1 dL_law_536 (q := 537) rfl ?_
  refine mh_iadd dL_law_537 (q := 538) rfl ?_
  refine mh_sld dL_law_538 (q := 539) rfl rfl (sIn (k := 1) h9 h46 (by decide)) ?_
  refine mh_aloadT_0 dL_law_539 (q := 540) rfl ?_
  refine mh_iload_3 dL_law_540 (q := 541) rfl ?_
  refine mh_iconst_2 dL_law_541 (q := 542) rfl ?_
  refine mh_iadd dL_law_542 (q := 543) rfl ?_
  refine mh_sld dL_law_543 (q := 544) rfl rfl (sIn (k := 2) h9 h46 (by decide)) ?_
  refine mh_aloadT_0 dL_law_544 (q := 545) rfl ?_
  refine mh_iload_3 dL_law_545 (q := 546) rfl ?_
  refine mh_iconst_3 dL_law_546 (q := 547) rfl ?_
  refine mh_iadd dL_law_547 (q := 548) rfl ?_
  refine mh_sld dL_law_548 (q := 549) rfl rfl (sIn (k := 3) h9 h46 (by decide)) ?_
  refine mh_aloadT_0 dL_law_549 (q := 550) rfl ?_
  refine mh_iload_3 dL_law_550 (q := 551) rfl ?_
  refine mh_iconst_4 dL_law_551 (q := 552) rfl ?_
  refine mh_iadd dL_law_552 (q := 553) rfl ?_
  refine mh_sld dL_law_553 (q := 554) rfl rfl (sIn (k := 4) h9 h46 (by decide)) ?_
  refine mh_callV4 ca_L_law_554 (shX6_0 hI.s6) (q := 557) rfl (by simp [Value.category]) ⟨by omega, by omega⟩ ?_
  refine pr_image (Ψ := fun x v S F I J P => mhV l K mL_law (kc - mX6_image.2.2.2.2.cells - mX7_image.2.2.2.2.cells) (ks - mX6_image.2.2.2.2.slots - mX7_image.2.2.2.2.slots) Φ 581 [some (.retAddr 0), some (.ref 0), some (.ref 21), some (.int (nI t))] (v.toList ++ [.int x]) S F I J P) hI (fun x S F I J P h7 hk2 => ?_) (fun x S F I J P hI => ?_)
  · skip
    refine mh_aload_2 dL_law_557 (q := 558) rfl ?_
    refine mh_aloadT_0 dL_law_558 (q := 559) rfl ?_
    refine mh_iload_3 dL_law_559 (q := 560) rfl ?_
    refine mh_iconst_1 dL_law_560 (q := 561) rfl ?_
    refine mh_iadd dL_law_561 (q := 562) rfl ?_
    refine mh_sld dL_law_562 (q := 563) rfl rfl (sIn (k := 1) h9 h46 (by decide)) ?_
    refine mh_aloadT_0 dL_law_563 (q := 564) rfl ?_
    refine mh_iload_3 dL_law_564 (q := 565) rfl ?_
    refine mh_iconst_2 dL_law_565 (q := 566) rfl ?_
    refine mh_iadd dL_law_566 (q := 567) rfl ?_
    refine mh_sld dL_law_567 (q := 568) rfl rfl (sIn (k := 2) h9 h46 (by decide)) ?_
    refine mh_aloadT_0 dL_law_568 (q := 569) rfl ?_
    refine mh_iload_3 dL_law_569 (q := 570) rfl ?_
    refine mh_iconst_3 dL_law_570 (q := 571) rfl ?_
    refine mh_iadd dL_law_571 (q := 572) rfl ?_
    refine mh_sld dL_law_572 (q := 573) rfl rfl (sIn (k := 3) h9 h46 (by decide)) ?_
    refine mh_aloadT_0 dL_law_573 (q := 574) rfl ?_
    refine mh_iload_3 dL_law_574 (q := 575) rfl ?_
    refine mh_iconst_4 dL_law_575 (q := 576) rfl ?_
    refine mh_iadd dL_law_576 (q := 577) rfl ?_
    refine mh_sld dL_law_577 (q := 578) rfl rfl (sIn (k := 4) h9 h46 (by decide)) ?_
    refine mh_callV4 ca_L_law_578 (shX7_0 h7) (q := 581) rfl (by simp [Value.category]) ⟨by omega, by omega⟩ ?_
    exact hk2
  · skip
    refine mh_icmp_eq dL_law_581 (tgt := 1565) (q := 584) rfl rfl (fun _ => ?_) (fun hh => absurd rfl hh)
    exact kk _ _ (by omega) (by omega) _ _ _ _ _ hI
set_option maxHeartbeats 4000000 in
set_option maxRecDepth 100000 in
theorem law_c8 {l : Launch} {K : mhX} {kc ks t : Nat} {Φ : mhQ} {S : List mhS} {F : mhF} {I : mhI} {J : mhJ} {P : mhP} (hI : mhIv S F I P) (h9 : t + 9 ≤ K.2.2.2.2.1) (h46 : K.2.2.2.2.1 ≤ 4608) (hkc : 11 ≤ kc) (hks : 359 ≤ ks) (kk : ∀ (kc2 ks2 : Nat), kc ≤ kc2 + 11 → ks ≤ ks2 + 359 → ∀ (S : List mhS) (F : mhF) (I : mhI) (J : mhJ) (P : mhP), mhIv S F I P → mhV l K mL_law kc2 ks2 Φ 1565 [some (.retAddr 0), some (.ref 0), some (.ref 21), some (.int (nI t))] [] S F I J P) : mhV l K mL_law kc ks Φ 586 [some (.retAddr 0), some (.ref 0), some (.ref 21), some (.int (nI t))] [] S F I J P := by
  have bc : mX6_images.2.2.2.2.cells + mX7_images.2.2.2.2.cells ≤ 11 := by decide
  have bs : mX6_images.2.2.2.2.slots + mX7_images.2.2.2.2.slots ≤ 359 := by decide
  refine mh_aload_1 dL_law_586 (q := 587) rfl ?_
  refine mh_aloadT_0 dL_law_587 (q := 588) rfl ?_
  refine mh_iload_3 dL_law_588 (q := 589) rfl ?_
  refine mh_iconst_1 dL_law_589 (q := 590) rfl ?_
  refine mh_iadd dL_law_590 (q := 591) rfl ?_
  refine mh_sld dL_law_591 (q := 592) rfl rfl (sIn (k := 1) h9 h46 (by decide)) ?_
  refine mh_aloadT_0 dL_law_592 (q := 593) rfl ?_
  refine mh_iload_3 dL_law_593 (q := 594) rfl ?_
  refine mh_iconst_2 dL_law_594 (q := 595) rfl ?_
  refine mh_iadd dL_law_595 (q := 596) rfl ?_
  refine mh_sld dL_law_596 (q := 597) rfl rfl (sIn (k := 2) h9 h46 (by decide)) ?_
  refine mh_aloadT_0 dL_law_597 (q := 598) rfl ?_
  refine mh_iload_3 dL_law_598 (q := 599) rfl ?_
  refine mh_iconst_3 dL_law_599 (q := 600) rfl ?_
  refine mh_iadd dL_law_600 (q := 601) rfl ?_
  refine mh_sld dL_law_601 (q := 602) rfl rfl (sIn (k := 3) h9 h46 (by decide)) ?_
  refine mh_aloadT_0 dL_law_602 (q := 603) rfl ?_
  refine mh_iload_3 dL_law_603 (q := 604) rfl ?_
  refine mh_iconst_4 dL_law_604 (q := 605) rfl ?_
  refine mh_iadd dL_law_605 (q := 606) rfl ?_
  refine mh_sld dL_law_606 (q := 607) rfl rfl (sIn (k := 4) h9 h46 (by decide)) ?_
  refine mh_aloadT_0 dL_law_607 (q := 608) rfl ?_
  refine mh_iload_3 dL_law_608 (q := 609) rfl ?_
  refine mh_iconst_5 dL_law_609 (q := 610) rfl ?_
  refine mh_iadd dL_law_610 (q := 611) rfl ?_
  refine mh_sld dL_law_611 (q := 612) rfl rfl (sIn (k := 5) h9 h46 (by decide)) ?_
  refine mh_callV5 ca_L_law_612 (shX6_0 hI.s6) (q := 615) rfl (by simp [Value.category]) ⟨by omega, by omega⟩ ?_
  refine pr_images (Ψ := fun x v S F I J P => mhV l K mL_law (kc - mX6_images.2.2.2.2.cells - mX7_images.2.2.2.2.cells) (ks - mX6_images.2.2.2.2.slots - mX7_images.2.2.2.2.slots) Φ 644 [some (.retAddr 0), some (.ref 0), some (.ref 21), some (.int (nI t))] (v.toList ++ [.int x]) S F I J P) hI (fun x S F I J P h7 hk2 => ?_) (fun x S F I J P hI => ?_)
  · skip
    refine mh_aload_2 dL_law_615 (q := 616) rfl ?_
    refine mh_aloadT_0 dL_law_616 (q := 617) rfl ?_
    refine mh_iload_3 dL_law_617 (q := 618) rfl ?_
    refine mh_iconst_1 dL_law_618 (q := 619) rfl ?_
    refine mh_iadd dL_law_619 (q := 620) rfl ?_
    refine mh_sld dL_law_620 (q := 621) rfl rfl (sIn (k := 1) h9 h46 (by decide)) ?_
    refine mh_aloadT_0 dL_law_621 (q := 622) rfl ?_
    refine mh_iload_3 dL_law_622 (q := 623) rfl ?_
    refine mh_iconst_2 dL_law_623 (q := 624) rfl ?_
    refine mh_iadd dL_law_624 (q := 625) rfl ?_
    refine mh_sld dL_law_625 (q := 626) rfl rfl (sIn (k := 2) h9 h46 (by decide)) ?_
    refine mh_aloadT_0 dL_law_626 (q := 627) rfl ?_
    refine mh_iload_3 dL_law_627 (q := 628) rfl ?_
    refine mh_iconst_3 dL_law_628 (q := 629) rfl ?_
    refine mh_iadd dL_law_629 (q := 630) rfl ?_
    refine mh_sld dL_law_630 (q := 631) rfl rfl (sIn (k := 3) h9 h46 (by decide)) ?_
    refine mh_aloadT_0 dL_law_631 (q := 632) rfl ?_
    refine mh_iload_3 dL_law_632 (q := 633) rfl ?_
    refine mh_iconst_4 dL_law_633 (q := 634) rfl ?_
    refine mh_iadd dL_law_634 (q := 635) rfl ?_
    refine mh_sld dL_law_635 (q := 636) rfl rfl (sIn (k := 4) h9 h46 (by decide)) ?_
    refine mh_aloadT_0 dL_law_636 (q := 637) rfl ?_
    refine mh_iload_3 dL_law_637 (q := 638) rfl ?_
    refine mh_iconst_5 dL_law_638 (q := 639) rfl ?_
    refine mh_iadd dL_law_639 (q := 640) rfl ?_
    refine mh_sld dL_law_640 (q := 641) rfl rfl (sIn (k := 5) h9 h46 (by decide)) ?_
    refine mh_callV5 ca_L_law_641 (shX7_0 h7) (q := 644) rfl (by simp [Value.category]) ⟨by omega, by omega⟩ ?_
    exact hk2
  · skip
    refine mh_icmp_eq dL_law_644 (tgt := 1565) (q := 647) rfl rfl (fun _ => ?_) (fun hh => absurd rfl hh)
    exact kk _ _ (by omega) (by omega) _ _ _ _ _ hI
set_option maxHeartbeats 4000000 in
set_option maxRecDepth 100000 in
theorem law_c9 {l : Launch} {K : mhX} {kc ks t : Nat} {Φ : mhQ} {S : List mhS} {F : mhF} {I : mhI} {J : mhJ} {P : mhP} (hI : mhIv S F I P) (h9 : t + 9 ≤ K.2.2.2.2.1) (h46 : K.2.2.2.2.1 ≤ 4608) (hkc : 11 ≤ kc) (hks : 359 ≤ ks) (kk : ∀ (kc2 ks2 : Nat), kc ≤ kc2 + 11 → ks ≤ ks2 + 359 → ∀ (S : List mhS) (F : mhF) (I : mhI) (J : mhJ) (P : mhP), mhIv S F I P → mhV l K mL_law kc2 ks2 Φ 1565 [some (.retAddr 0), some (.ref 0), some (.ref 21), some (.int (nI t))] [] S F I J P) : mhV l K mL_law kc ks Φ 649 [some (.retAddr 0), some (.ref 0), some (.ref 21), some (.int (nI t))] [] S F I J P := by
  have bc : mX6_report.2.2.2.2.cells + mX7_report.2.2.2.2.cells ≤ 11 := by decide
  have bs : mX6_report.2.2.2.2.slots + mX7_report.2.2.2.2.slots ≤ 359 := by decide
  by_cases hv : (K.2.2.2.2.2 (nI t + 5).toNatClampNeg) = 0
  · skip
    refine mh_aload_1 dL_law_649 (q := 650) rfl ?_
    refine mh_aloadT_0 dL_law_650 (q := 651) rfl ?_
    refine mh_iload_3 dL_law_651 (q := 652) rfl ?_
    refine mh_iconst_1 dL_law_652 (q := 653) rfl ?_
    refine mh_iadd dL_law_653 (q := 654) rfl ?_
    refine mh_sld dL_law_654 (q := 655) rfl rfl (sIn (k := 1) h9 h46 (by decide)) ?_
    refine mh_aloadT_0 dL_law_655 (q := 656) rfl ?_
    refine mh_iload_3 dL_law_656 (q := 657) rfl ?_
    refine mh_iconst_2 dL_law_657 (q := 658) rfl ?_
    refine mh_iadd dL_law_658 (q := 659) rfl ?_
    refine mh_sld dL_law_659 (q := 660) rfl rfl (sIn (k := 2) h9 h46 (by decide)) ?_
    refine mh_aloadT_0 dL_law_660 (q := 661) rfl ?_
    refine mh_iload_3 dL_law_661 (q := 662) rfl ?_
    refine mh_iconst_3 dL_law_662 (q := 663) rfl ?_
    refine mh_iadd dL_law_663 (q := 664) rfl ?_
    refine mh_sld dL_law_664 (q := 665) rfl rfl (sIn (k := 3) h9 h46 (by decide)) ?_
    refine mh_aloadT_0 dL_law_665 (q := 666) rfl ?_
    refine mh_iload_3 dL_law_666 (q := 667) rfl ?_
    refine mh_iconst_4 dL_law_667 (q := 668) rfl ?_
    refine mh_iadd dL_law_668 (q := 669) rfl ?_
    refine mh_sld dL_law_669 (q := 670) rfl rfl (sIn (k := 4) h9 h46 (by decide)) ?_
    refine mh_aloadT_0 dL_law_670 (q := 671) rfl ?_
    refine mh_iload_3 dL_law_671 (q := 672) rfl ?_
    refine mh_iconst_5 dL_law_672 (q := 673) rfl ?_
    refine mh_iadd dL_law_673 (q := 674) rfl ?_
    refine mh_sld dL_law_674 (q := 675) rfl rfl (sIn (k := 5) h9 h46 (by decide)) ?_
    refine mh_if_eq dL_law_675 (tgt := 682) (q := 678) rfl rfl (fun _ => ?_) (fun hh => absurd hv hh)
    refine mh_iconst_0 dL_law_682 (q := 683) rfl ?_
    refine mh_callV5 ca_L_law_683 (shX6_0 hI.s6) (q := 686) rfl (by simp [Value.category]) ⟨by omega, by omega⟩ ?_
    refine pr_report (Ψ := fun x v S F I J P => mhV l K mL_law (kc - mX6_report.2.2.2.2.cells - mX7_report.2.2.2.2.cells) (ks - mX6_report.2.2.2.2.slots - mX7_report.2.2.2.2.slots) Φ 723 [some (.retAddr 0), some (.ref 0), some (.ref 21), some (.int (nI t))] (v.toList ++ [.int x]) S F I J P) (by decide) hI (fun x S F I J P h7 hk2 => ?_) (fun x S F I J P hI => ?_)
    · skip
      refine mh_aload_2 dL_law_686 (q := 687) rfl ?_
      refine mh_aloadT_0 dL_law_687 (q := 688) rfl ?_
      refine mh_iload_3 dL_law_688 (q := 689) rfl ?_
      refine mh_iconst_1 dL_law_689 (q := 690) rfl ?_
      refine mh_iadd dL_law_690 (q := 691) rfl ?_
      refine mh_sld dL_law_691 (q := 692) rfl rfl (sIn (k := 1) h9 h46 (by decide)) ?_
      refine mh_aloadT_0 dL_law_692 (q := 693) rfl ?_
      refine mh_iload_3 dL_law_693 (q := 694) rfl ?_
      refine mh_iconst_2 dL_law_694 (q := 695) rfl ?_
      refine mh_iadd dL_law_695 (q := 696) rfl ?_
      refine mh_sld dL_law_696 (q := 697) rfl rfl (sIn (k := 2) h9 h46 (by decide)) ?_
      refine mh_aloadT_0 dL_law_697 (q := 698) rfl ?_
      refine mh_iload_3 dL_law_698 (q := 699) rfl ?_
      refine mh_iconst_3 dL_law_699 (q := 700) rfl ?_
      refine mh_iadd dL_law_700 (q := 701) rfl ?_
      refine mh_sld dL_law_701 (q := 702) rfl rfl (sIn (k := 3) h9 h46 (by decide)) ?_
      refine mh_aloadT_0 dL_law_702 (q := 703) rfl ?_
      refine mh_iload_3 dL_law_703 (q := 704) rfl ?_
      refine mh_iconst_4 dL_law_704 (q := 705) rfl ?_
      refine mh_iadd dL_law_705 (q := 706) rfl ?_
      refine mh_sld dL_law_706 (q := 707) rfl rfl (sIn (k := 4) h9 h46 (by decide)) ?_
      refine mh_aloadT_0 dL_law_707 (q := 708) rfl ?_
      refine mh_iload_3 dL_law_708 (q := 709) rfl ?_
      refine mh_iconst_5 dL_law_709 (q := 710) rfl ?_
      refine mh_iadd dL_law_710 (q := 711) rfl ?_
      refine mh_sld dL_law_711 (q := 712) rfl rfl (sIn (k := 5) h9 h46 (by decide)) ?_
      refine mh_if_eq dL_law_712 (tgt := 719) (q := 715) rfl rfl (fun _ => ?_) (fun hh => absurd hv hh)
      refine mh_iconst_0 dL_law_719 (q := 720) rfl ?_
      refine mh_callV5 ca_L_law_720 (shX7_0 h7) (q := 723) rfl (by simp [Value.category]) ⟨by omega, by omega⟩ ?_
      exact hk2
    · skip
      refine mh_icmp_eq dL_law_723 (tgt := 1565) (q := 726) rfl rfl (fun _ => ?_) (fun hh => absurd rfl hh)
      exact kk _ _ (by omega) (by omega) _ _ _ _ _ hI
  · skip
    refine mh_aload_1 dL_law_649 (q := 650) rfl ?_
    refine mh_aloadT_0 dL_law_650 (q := 651) rfl ?_
    refine mh_iload_3 dL_law_651 (q := 652) rfl ?_
    refine mh_iconst_1 dL_law_652 (q := 653) rfl ?_
    refine mh_iadd dL_law_653 (q := 654) rfl ?_
    refine mh_sld dL_law_654 (q := 655) rfl rfl (sIn (k := 1) h9 h46 (by decide)) ?_
    refine mh_aloadT_0 dL_law_655 (q := 656) rfl ?_
    refine mh_iload_3 dL_law_656 (q := 657) rfl ?_
    refine mh_iconst_2 dL_law_657 (q := 658) rfl ?_
    refine mh_iadd dL_law_658 (q := 659) rfl ?_
    refine mh_sld dL_law_659 (q := 660) rfl rfl (sIn (k := 2) h9 h46 (by decide)) ?_
    refine mh_aloadT_0 dL_law_660 (q := 661) rfl ?_
    refine mh_iload_3 dL_law_661 (q := 662) rfl ?_
    refine mh_iconst_3 dL_law_662 (q := 663) rfl ?_
    refine mh_iadd dL_law_663 (q := 664) rfl ?_
    refine mh_sld dL_law_664 (q := 665) rfl rfl (sIn (k := 3) h9 h46 (by decide)) ?_
    refine mh_aloadT_0 dL_law_665 (q := 666) rfl ?_
    refine mh_iload_3 dL_law_666 (q := 667) rfl ?_
    refine mh_iconst_4 dL_law_667 (q := 668) rfl ?_
    refine mh_iadd dL_law_668 (q := 669) rfl ?_
    refine mh_sld dL_law_669 (q := 670) rfl rfl (sIn (k := 4) h9 h46 (by decide)) ?_
    refine mh_aloadT_0 dL_law_670 (q := 671) rfl ?_
    refine mh_iload_3 dL_law_671 (q := 672) rfl ?_
    refine mh_iconst_5 dL_law_672 (q := 673) rfl ?_
    refine mh_iadd dL_law_673 (q := 674) rfl ?_
    refine mh_sld dL_law_674 (q := 675) rfl rfl (sIn (k := 5) h9 h46 (by decide)) ?_
    refine mh_if_eq dL_law_675 (tgt := 682) (q := 678) rfl rfl (fun hh => absurd hh hv) (fun _ => ?_)
    refine mh_iconst_1 dL_law_678 (q := 679) rfl ?_
    refine mh_goto dL_law_679 (tgt := 683) rfl ?_
    refine mh_callV5 ca_L_law_683 (shX6_0 hI.s6) (q := 686) rfl (by simp [Value.category]) ⟨by omega, by omega⟩ ?_
    refine pr_report (Ψ := fun x v S F I J P => mhV l K mL_law (kc - mX6_report.2.2.2.2.cells - mX7_report.2.2.2.2.cells) (ks - mX6_report.2.2.2.2.slots - mX7_report.2.2.2.2.slots) Φ 723 [some (.retAddr 0), some (.ref 0), some (.ref 21), some (.int (nI t))] (v.toList ++ [.int x]) S F I J P) (by decide) hI (fun x S F I J P h7 hk2 => ?_) (fun x S F I J P hI => ?_)
    · skip
      refine mh_aload_2 dL_law_686 (q := 687) rfl ?_
      refine mh_aloadT_0 dL_law_687 (q := 688) rfl ?_
      refine mh_iload_3 dL_law_688 (q := 689) rfl ?_
      refine mh_iconst_1 dL_law_689 (q := 690) rfl ?_
      refine mh_iadd dL_law_690 (q := 691) rfl ?_
      refine mh_sld dL_law_691 (q := 692) rfl rfl (sIn (k := 1) h9 h46 (by decide)) ?_
      refine mh_aloadT_0 dL_law_692 (q := 693) rfl ?_
      refine mh_iload_3 dL_law_693 (q := 694) rfl ?_
      refine mh_iconst_2 dL_law_694 (q := 695) rfl ?_
      refine mh_iadd dL_law_695 (q := 696) rfl ?_
      refine mh_sld dL_law_696 (q := 697) rfl rfl (sIn (k := 2) h9 h46 (by decide)) ?_
      refine mh_aloadT_0 dL_law_697 (q := 698) rfl ?_
      refine mh_iload_3 dL_law_698 (q := 699) rfl ?_
      refine mh_iconst_3 dL_law_699 (q := 700) rfl ?_
      refine mh_iadd dL_law_700 (q := 701) rfl ?_
      refine mh_sld dL_law_701 (q := 702) rfl rfl (sIn (k := 3) h9 h46 (by decide)) ?_
      refine mh_aloadT_0 dL_law_702 (q := 703) rfl ?_
      refine mh_iload_3 dL_law_703 (q := 704) rfl ?_
      refine mh_iconst_4 dL_law_704 (q := 705) rfl ?_
      refine mh_iadd dL_law_705 (q := 706) rfl ?_
      refine mh_sld dL_law_706 (q := 707) rfl rfl (sIn (k := 4) h9 h46 (by decide)) ?_
      refine mh_aloadT_0 dL_law_707 (q := 708) rfl ?_
      refine mh_iload_3 dL_law_708 (q := 709) rfl ?_
      refine mh_iconst_5 dL_law_709 (q := 710) rfl ?_
      refine mh_iadd dL_law_710 (q := 711) rfl ?_
      refine mh_sld dL_law_711 (q := 712) rfl rfl (sIn (k := 5) h9 h46 (by decide)) ?_
      refine mh_if_eq dL_law_712 (tgt := 719) (q := 715) rfl rfl (fun hh => absurd hh hv) (fun _ => ?_)
      refine mh_iconst_1 dL_law_715 (q := 716) rfl ?_
      refine mh_goto dL_law_716 (tgt := 720) rfl ?_
      refine mh_callV5 ca_L_law_720 (shX7_0 h7) (q := 723) rfl (by simp [Value.category]) ⟨by omega, by omega⟩ ?_
      exact hk2
    · skip
      refine mh_icmp_eq dL_law_723 (tgt := 1565) (q := 726) rfl rfl (fun _ => ?_) (fun hh => absurd rfl hh)
      exact kk _ _ (by omega) (by omega) _ _ _ _ _ hI
set_option maxHeartbeats 4000000 in
set_option maxRecDepth 100000 in
theorem law_c10 {l : Launch} {K : mhX} {kc ks t : Nat} {Φ : mhQ} {S : List mhS} {F : mhF} {I : mhI} {J : mhJ} {P : mhP} (hI : mhIv S F I P) (h9 : t + 9 ≤ K.2.2.2.2.1) (h46 : K.2.2.2.2.1 ≤ 4608) (hkc : 11 ≤ kc) (hks : 359 ≤ ks) (kk : ∀ (kc2 ks2 : Nat), kc ≤ kc2 + 11 → ks ≤ ks2 + 359 → ∀ (S : List mhS) (F : mhF) (I : mhI) (J : mhJ) (P : mhP), mhIv S F I P → mhV l K mL_law kc2 ks2 Φ 1565 [some (.retAddr 0), some (.ref 0), some (.ref 21), some (.int (nI t))] [] S F I J P) : mhV l K mL_law kc ks Φ 728 [some (.retAddr 0), some (.ref 0), some (.ref 21), some (.int (nI t))] [] S F I J P := by
  have bc : mX6_spots.2.2.2.2.cells + mX7_spots.2.2.2.2.cells ≤ 11 := by decide
  have bs : mX6_spots.2.2.2.2.slots + mX7_spots.2.2.2.2.slots ≤ 359 := by decide
  refine mh_aload_1 dL_law_728 (q := 729) rfl ?_
  refine mh_aloadT_0 dL_law_729 (q := 730) rfl ?_
  refine mh_iload_3 dL_law_730 (q := 731) rfl ?_
  refine mh_iconst_1 dL_law_731 (q := 732) rfl ?_
  refine mh_iadd dL_law_732 (q := 733) rfl ?_
  refine mh_sld dL_law_733 (q := 734) rfl rfl (sIn (k := 1) h9 h46 (by decide)) ?_
  refine mh_callV1 ca_L_law_734 (shX6_0 hI.s6) (q := 737) rfl (by simp [Value.category]) ⟨by omega, by omega⟩ ?_
  refine pr_spots (Ψ := fun x v S F I J P => mhV l K mL_law (kc - mX6_spots.2.2.2.2.cells - mX7_spots.2.2.2.2.cells) (ks - mX6_spots.2.2.2.2.slots - mX7_spots.2.2.2.2.slots) Φ 746 [some (.retAddr 0), some (.ref 0), some (.ref 21), some (.int (nI t))] (v.toList ++ [.int x]) S F I J P) hI (fun x S F I J P h7 hk2 => ?_) (fun x S F I J P hI => ?_)
  · skip
    refine mh_aload_2 dL_law_737 (q := 738) rfl ?_
    refine mh_aloadT_0 dL_law_738 (q := 739) rfl ?_
    refine mh_iload_3 dL_law_739 (q := 740) rfl ?_
    refine mh_iconst_1 dL_law_740 (q := 741) rfl ?_
    refine mh_iadd dL_law_741 (q := 742) rfl ?_
    refine mh_sld dL_law_742 (q := 743) rfl rfl (sIn (k := 1) h9 h46 (by decide)) ?_
    refine mh_callV1 ca_L_law_743 (shX7_0 h7) (q := 746) rfl (by simp [Value.category]) ⟨by omega, by omega⟩ ?_
    exact hk2
  · skip
    refine mh_icmp_eq dL_law_746 (tgt := 1565) (q := 749) rfl rfl (fun _ => ?_) (fun hh => absurd rfl hh)
    exact kk _ _ (by omega) (by omega) _ _ _ _ _ hI
set_option maxHeartbeats 4000000 in
set_option maxRecDepth 100000 in
theorem law_c11 {l : Launch} {K : mhX} {kc ks t : Nat} {Φ : mhQ} {S : List mhS} {F : mhF} {I : mhI} {J : mhJ} {P : mhP} (hI : mhIv S F I P) (h9 : t + 9 ≤ K.2.2.2.2.1) (h46 : K.2.2.2.2.1 ≤ 4608) (hkc : 11 ≤ kc) (hks : 359 ≤ ks) (kk : ∀ (kc2 ks2 : Nat), kc ≤ kc2 + 11 → ks ≤ ks2 + 359 → ∀ (S : List mhS) (F : mhF) (I : mhI) (J : mhJ) (P : mhP), mhIv S F I P → mhV l K mL_law kc2 ks2 Φ 1565 [some (.retAddr 0), some (.ref 0), some (.ref 21), some (.int (nI t))] [] S F I J P) : mhV l K mL_law kc ks Φ 751 [some (.retAddr 0), some (.ref 0), some (.ref 21), some (.int (nI t))] [] S F I J P := by
  have bc : mX6_photograph.2.2.2.2.cells + mX7_photograph.2.2.2.2.cells ≤ 11 := by decide
  have bs : mX6_photograph.2.2.2.2.slots + mX7_photograph.2.2.2.2.slots ≤ 359 := by decide
  refine mh_aload_1 dL_law_751 (q := 752) rfl ?_
  refine mh_aloadT_0 dL_law_752 (q := 753) rfl ?_
  refine mh_iload_3 dL_law_753 (q := 754) rfl ?_
  refine mh_iconst_1 dL_law_754 (q := 755) rfl ?_
  refine mh_iadd dL_law_755 (q := 756) rfl ?_
  refine mh_sld dL_law_756 (q := 757) rfl rfl (sIn (k := 1) h9 h46 (by decide)) ?_
  refine mh_aloadT_0 dL_law_757 (q := 758) rfl ?_
  refine mh_iload_3 dL_law_758 (q := 759) rfl ?_
  refine mh_iconst_2 dL_law_759 (q := 760) rfl ?_
  refine mh_iadd dL_law_760 (q := 761) rfl ?_
  refine mh_sld dL_law_761 (q := 762) rfl rfl (sIn (k := 2) h9 h46 (by decide)) ?_
  refine mh_aloadT_0 dL_law_762 (q := 763) rfl ?_
  refine mh_iload_3 dL_law_763 (q := 764) rfl ?_
  refine mh_iconst_3 dL_law_764 (q := 765) rfl ?_
  refine mh_iadd dL_law_765 (q := 766) rfl ?_
  refine mh_sld dL_law_766 (q := 767) rfl rfl (sIn (k := 3) h9 h46 (by decide)) ?_
  refine mh_aloadT_0 dL_law_767 (q := 768) rfl ?_
  refine mh_iload_3 dL_law_768 (q := 769) rfl ?_
  refine mh_iconst_4 dL_law_769 (q := 770) rfl ?_
  refine mh_iadd dL_law_770 (q := 771) rfl ?_
  refine mh_sld dL_law_771 (q := 772) rfl rfl (sIn (k := 4) h9 h46 (by decide)) ?_
  refine mh_callV4 ca_L_law_772 (shX6_0 hI.s6) (q := 775) rfl (by simp [Value.category]) ⟨by omega, by omega⟩ ?_
  refine pr_photograph (Ψ := fun x v S F I J P => mhV l K mL_law (kc - mX6_photograph.2.2.2.2.cells - mX7_photograph.2.2.2.2.cells) (ks - mX6_photograph.2.2.2.2.slots - mX7_photograph.2.2.2.2.slots) Φ 799 [some (.retAddr 0), some (.ref 0), some (.ref 21), some (.int (nI t))] (v.toList ++ [.int x]) S F I J P) hI (fun x S F I J P h7 hk2 => ?_) (fun x S F I J P hI => ?_)
  · skip
    refine mh_aload_2 dL_law_775 (q := 776) rfl ?_
    refine mh_aloadT_0 dL_law_776 (q := 777) rfl ?_
    refine mh_iload_3 dL_law_777 (q := 778) rfl ?_
    refine mh_iconst_1 dL_law_778 (q := 779) rfl ?_
    refine mh_iadd dL_law_779 (q := 780) rfl ?_
    refine mh_sld dL_law_780 (q := 781) rfl rfl (sIn (k := 1) h9 h46 (by decide)) ?_
    refine mh_aloadT_0 dL_law_781 (q := 782) rfl ?_
    refine mh_iload_3 dL_law_782 (q := 783) rfl ?_
    refine mh_iconst_2 dL_law_783 (q := 784) rfl ?_
    refine mh_iadd dL_law_784 (q := 785) rfl ?_
    refine mh_sld dL_law_785 (q := 786) rfl rfl (sIn (k := 2) h9 h46 (by decide)) ?_
    refine mh_aloadT_0 dL_law_786 (q := 787) rfl ?_
    refine mh_iload_3 dL_law_787 (q := 788) rfl ?_
    refine mh_iconst_3 dL_law_788 (q := 789) rfl ?_
    refine mh_iadd dL_law_789 (q := 790) rfl ?_
    refine mh_sld dL_law_790 (q := 791) rfl rfl (sIn (k := 3) h9 h46 (by decide)) ?_
    refine mh_aloadT_0 dL_law_791 (q := 792) rfl ?_
    refine mh_iload_3 dL_law_792 (q := 793) rfl ?_
    refine mh_iconst_4 dL_law_793 (q := 794) rfl ?_
    refine mh_iadd dL_law_794 (q := 795) rfl ?_
    refine mh_sld dL_law_795 (q := 796) rfl rfl (sIn (k := 4) h9 h46 (by decide)) ?_
    refine mh_callV4 ca_L_law_796 (shX7_0 h7) (q := 799) rfl (by simp [Value.category]) ⟨by omega, by omega⟩ ?_
    exact hk2
  · skip
    refine mh_icmp_eq dL_law_799 (tgt := 1565) (q := 802) rfl rfl (fun _ => ?_) (fun hh => absurd rfl hh)
    exact kk _ _ (by omega) (by omega) _ _ _ _ _ hI
set_option maxHeartbeats 4000000 in
set_option maxRecDepth 100000 in
theorem law_c12 {l : Launch} {K : mhX} {kc ks t : Nat} {Φ : mhQ} {S : List mhS} {F : mhF} {I : mhI} {J : mhJ} {P : mhP} (hI : mhIv S F I P) (h9 : t + 9 ≤ K.2.2.2.2.1) (h46 : K.2.2.2.2.1 ≤ 4608) (hkc : 11 ≤ kc) (hks : 359 ≤ ks) (kk : ∀ (kc2 ks2 : Nat), kc ≤ kc2 + 11 → ks ≤ ks2 + 359 → ∀ (S : List mhS) (F : mhF) (I : mhI) (J : mhJ) (P : mhP), mhIv S F I P → mhV l K mL_law kc2 ks2 Φ 1565 [some (.retAddr 0), some (.ref 0), some (.ref 21), some (.int (nI t))] [] S F I J P) : mhV l K mL_law kc ks Φ 804 [some (.retAddr 0), some (.ref 0), some (.ref 21), some (.int (nI t))] [] S F I J P := by
  have bc : mX6_taken.2.2.2.2.cells + mX7_taken.2.2.2.2.cells ≤ 11 := by decide
  have bs : mX6_taken.2.2.2.2.slots + mX7_taken.2.2.2.2.slots ≤ 359 := by decide
  refine mh_aload_1 dL_law_804 (q := 805) rfl ?_
  refine mh_aloadT_0 dL_law_805 (q := 806) rfl ?_
  refine mh_iload_3 dL_law_806 (q := 807) rfl ?_
  refine mh_iconst_1 dL_law_807 (q := 808) rfl ?_
  refine mh_iadd dL_law_808 (q := 809) rfl ?_
  refine mh_sld dL_law_809 (q := 810) rfl rfl (sIn (k := 1) h9 h46 (by decide)) ?_
  refine mh_callV1 ca_L_law_810 (shX6_0 hI.s6) (q := 813) rfl (by simp [Value.category]) ⟨by omega, by omega⟩ ?_
  refine pr_taken (Ψ := fun x v S F I J P => mhV l K mL_law (kc - mX6_taken.2.2.2.2.cells - mX7_taken.2.2.2.2.cells) (ks - mX6_taken.2.2.2.2.slots - mX7_taken.2.2.2.2.slots) Φ 822 [some (.retAddr 0), some (.ref 0), some (.ref 21), some (.int (nI t))] (v.toList ++ [.int x]) S F I J P) hI (fun x S F I J P h7 hk2 => ?_) (fun x S F I J P hI => ?_)
  · skip
    refine mh_aload_2 dL_law_813 (q := 814) rfl ?_
    refine mh_aloadT_0 dL_law_814 (q := 815) rfl ?_
    refine mh_iload_3 dL_law_815 (q := 816) rfl ?_
    refine mh_iconst_1 dL_law_816 (q := 817) rfl ?_
    refine mh_iadd dL_law_817 (q := 818) rfl ?_
    refine mh_sld dL_law_818 (q := 819) rfl rfl (sIn (k := 1) h9 h46 (by decide)) ?_
    refine mh_callV1 ca_L_law_819 (shX7_0 h7) (q := 822) rfl (by simp [Value.category]) ⟨by omega, by omega⟩ ?_
    exact hk2
  · skip
    refine mh_icmp_eq dL_law_822 (tgt := 1565) (q := 825) rfl rfl (fun _ => ?_) (fun hh => absurd rfl hh)
    exact kk _ _ (by omega) (by omega) _ _ _ _ _ hI
set_option maxHeartbeats 4000000 in
set_option maxRecDepth 100000 in
theorem law_c13 {l : Launch} {K : mhX} {kc ks t : Nat} {Φ : mhQ} {S : List mhS} {F : mhF} {I : mhI} {J : mhJ} {P : mhP} (hI : mhIv S F I P) (h9 : t + 9 ≤ K.2.2.2.2.1) (h46 : K.2.2.2.2.1 ≤ 4608) (hkc : 11 ≤ kc) (hks : 359 ≤ ks) (kk : ∀ (kc2 ks2 : Nat), kc ≤ kc2 + 11 → ks ≤ ks2 + 359 → ∀ (S : List mhS) (F : mhF) (I : mhI) (J : mhJ) (P : mhP), mhIv S F I P → mhV l K mL_law kc2 ks2 Φ 1565 [some (.retAddr 0), some (.ref 0), some (.ref 21), some (.int (nI t))] [] S F I J P) : mhV l K mL_law kc ks Φ 827 [some (.retAddr 0), some (.ref 0), some (.ref 21), some (.int (nI t))] [] S F I J P := by
  have bc : mX6_walker.2.2.2.2.cells + mX7_walker.2.2.2.2.cells ≤ 11 := by decide
  have bs : mX6_walker.2.2.2.2.slots + mX7_walker.2.2.2.2.slots ≤ 359 := by decide
  refine mh_aload_1 dL_law_827 (q := 828) rfl ?_
  refine mh_aloadT_0 dL_law_828 (q := 829) rfl ?_
  refine mh_iload_3 dL_law_829 (q := 830) rfl ?_
  refine mh_iconst_1 dL_law_830 (q := 831) rfl ?_
  refine mh_iadd dL_law_831 (q := 832) rfl ?_
  refine mh_sld dL_law_832 (q := 833) rfl rfl (sIn (k := 1) h9 h46 (by decide)) ?_
  refine mh_aloadT_0 dL_law_833 (q := 834) rfl ?_
  refine mh_iload_3 dL_law_834 (q := 835) rfl ?_
  refine mh_iconst_2 dL_law_835 (q := 836) rfl ?_
  refine mh_iadd dL_law_836 (q := 837) rfl ?_
  refine mh_sld dL_law_837 (q := 838) rfl rfl (sIn (k := 2) h9 h46 (by decide)) ?_
  refine mh_aloadT_0 dL_law_838 (q := 839) rfl ?_
  refine mh_iload_3 dL_law_839 (q := 840) rfl ?_
  refine mh_iconst_3 dL_law_840 (q := 841) rfl ?_
  refine mh_iadd dL_law_841 (q := 842) rfl ?_
  refine mh_sld dL_law_842 (q := 843) rfl rfl (sIn (k := 3) h9 h46 (by decide)) ?_
  refine mh_aloadT_0 dL_law_843 (q := 844) rfl ?_
  refine mh_iload_3 dL_law_844 (q := 845) rfl ?_
  refine mh_iconst_4 dL_law_845 (q := 846) rfl ?_
  refine mh_iadd dL_law_846 (q := 847) rfl ?_
  refine mh_sld dL_law_847 (q := 848) rfl rfl (sIn (k := 4) h9 h46 (by decide)) ?_
  refine mh_callV4 ca_L_law_848 (shX6_0 hI.s6) (q := 851) rfl (by simp [Value.category]) ⟨by omega, by omega⟩ ?_
  refine pr_walker (Ψ := fun x v S F I J P => mhV l K mL_law (kc - mX6_walker.2.2.2.2.cells - mX7_walker.2.2.2.2.cells) (ks - mX6_walker.2.2.2.2.slots - mX7_walker.2.2.2.2.slots) Φ 875 [some (.retAddr 0), some (.ref 0), some (.ref 21), some (.int (nI t))] (v.toList ++ [.int x]) S F I J P) hI (fun x S F I J P h7 hk2 => ?_) (fun x S F I J P hI => ?_)
  · skip
    refine mh_aload_2 dL_law_851 (q := 852) rfl ?_
    refine mh_aloadT_0 dL_law_852 (q := 853) rfl ?_
    refine mh_iload_3 dL_law_853 (q := 854) rfl ?_
    refine mh_iconst_1 dL_law_854 (q := 855) rfl ?_
    refine mh_iadd dL_law_855 (q := 856) rfl ?_
    refine mh_sld dL_law_856 (q := 857) rfl rfl (sIn (k := 1) h9 h46 (by decide)) ?_
    refine mh_aloadT_0 dL_law_857 (q := 858) rfl ?_
    refine mh_iload_3 dL_law_858 (q := 859) rfl ?_
    refine mh_iconst_2 dL_law_859 (q := 860) rfl ?_
    refine mh_iadd dL_law_860 (q := 861) rfl ?_
    refine mh_sld dL_law_861 (q := 862) rfl rfl (sIn (k := 2) h9 h46 (by decide)) ?_
    refine mh_aloadT_0 dL_law_862 (q := 863) rfl ?_
    refine mh_iload_3 dL_law_863 (q := 864) rfl ?_
    refine mh_iconst_3 dL_law_864 (q := 865) rfl ?_
    refine mh_iadd dL_law_865 (q := 866) rfl ?_
    refine mh_sld dL_law_866 (q := 867) rfl rfl (sIn (k := 3) h9 h46 (by decide)) ?_
    refine mh_aloadT_0 dL_law_867 (q := 868) rfl ?_
    refine mh_iload_3 dL_law_868 (q := 869) rfl ?_
    refine mh_iconst_4 dL_law_869 (q := 870) rfl ?_
    refine mh_iadd dL_law_870 (q := 871) rfl ?_
    refine mh_sld dL_law_871 (q := 872) rfl rfl (sIn (k := 4) h9 h46 (by decide)) ?_
    refine mh_callV4 ca_L_law_872 (shX7_0 h7) (q := 875) rfl (by simp [Value.category]) ⟨by omega, by omega⟩ ?_
    exact hk2
  · skip
    refine mh_icmp_eq dL_law_875 (tgt := 1565) (q := 878) rfl rfl (fun _ => ?_) (fun hh => absurd rfl hh)
    exact kk _ _ (by omega) (by omega) _ _ _ _ _ hI
set_option maxHeartbeats 4000000 in
set_option maxRecDepth 100000 in
theorem law_c14 {l : Launch} {K : mhX} {kc ks t : Nat} {Φ : mhQ} {S : List mhS} {F : mhF} {I : mhI} {J : mhJ} {P : mhP} (hI : mhIv S F I P) (h9 : t + 9 ≤ K.2.2.2.2.1) (h46 : K.2.2.2.2.1 ≤ 4608) (hkc : 11 ≤ kc) (hks : 359 ≤ ks) (kk : ∀ (kc2 ks2 : Nat), kc ≤ kc2 + 11 → ks ≤ ks2 + 359 → ∀ (S : List mhS) (F : mhF) (I : mhI) (J : mhJ) (P : mhP), mhIv S F I P → mhV l K mL_law kc2 ks2 Φ 1565 [some (.retAddr 0), some (.ref 0), some (.ref 21), some (.int (nI t))] [] S F I J P) : mhV l K mL_law kc ks Φ 880 [some (.retAddr 0), some (.ref 0), some (.ref 21), some (.int (nI t))] [] S F I J P := by
  have bc : mX6_ticks.2.2.2.2.cells + mX7_ticks.2.2.2.2.cells ≤ 11 := by decide
  have bs : mX6_ticks.2.2.2.2.slots + mX7_ticks.2.2.2.2.slots ≤ 359 := by decide
  refine mh_aload_1 dL_law_880 (q := 881) rfl ?_
  refine mh_aloadT_0 dL_law_881 (q := 882) rfl ?_
  refine mh_iload_3 dL_law_882 (q := 883) rfl ?_
  refine mh_iconst_1 dL_law_883 (q := 884) rfl ?_
  refine mh_iadd dL_law_884 (q := 885) rfl ?_
  refine mh_sld dL_law_885 (q := 886) rfl rfl (sIn (k := 1) h9 h46 (by decide)) ?_
  refine mh_aloadT_0 dL_law_886 (q := 887) rfl ?_
  refine mh_iload_3 dL_law_887 (q := 888) rfl ?_
  refine mh_iconst_2 dL_law_888 (q := 889) rfl ?_
  refine mh_iadd dL_law_889 (q := 890) rfl ?_
  refine mh_sld dL_law_890 (q := 891) rfl rfl (sIn (k := 2) h9 h46 (by decide)) ?_
  refine mh_callV2 ca_L_law_891 (shX6_0 hI.s6) (q := 894) rfl (by simp [Value.category]) ⟨by omega, by omega⟩ ?_
  refine pr_ticks (Ψ := fun x v S F I J P => mhV l K mL_law (kc - mX6_ticks.2.2.2.2.cells - mX7_ticks.2.2.2.2.cells) (ks - mX6_ticks.2.2.2.2.slots - mX7_ticks.2.2.2.2.slots) Φ 908 [some (.retAddr 0), some (.ref 0), some (.ref 21), some (.int (nI t))] (v.toList ++ [.int x]) S F I J P) hI (fun x S F I J P h7 hk2 => ?_) (fun x S F I J P hI => ?_)
  · skip
    refine mh_aload_2 dL_law_894 (q := 895) rfl ?_
    refine mh_aloadT_0 dL_law_895 (q := 896) rfl ?_
    refine mh_iload_3 dL_law_896 (q := 897) rfl ?_
    refine mh_iconst_1 dL_law_897 (q := 898) rfl ?_
    refine mh_iadd dL_law_898 (q := 899) rfl ?_
    refine mh_sld dL_law_899 (q := 900) rfl rfl (sIn (k := 1) h9 h46 (by decide)) ?_
    refine mh_aloadT_0 dL_law_900 (q := 901) rfl ?_
    refine mh_iload_3 dL_law_901 (q := 902) rfl ?_
    refine mh_iconst_2 dL_law_902 (q := 903) rfl ?_
    refine mh_iadd dL_law_903 (q := 904) rfl ?_
    refine mh_sld dL_law_904 (q := 905) rfl rfl (sIn (k := 2) h9 h46 (by decide)) ?_
    refine mh_callV2 ca_L_law_905 (shX7_0 h7) (q := 908) rfl (by simp [Value.category]) ⟨by omega, by omega⟩ ?_
    exact hk2
  · skip
    refine mh_icmp_eq dL_law_908 (tgt := 1565) (q := 911) rfl rfl (fun _ => ?_) (fun hh => absurd rfl hh)
    exact kk _ _ (by omega) (by omega) _ _ _ _ _ hI
set_option maxHeartbeats 4000000 in
set_option maxRecDepth 100000 in
theorem law_c15 {l : Launch} {K : mhX} {kc ks t : Nat} {Φ : mhQ} {S : List mhS} {F : mhF} {I : mhI} {J : mhJ} {P : mhP} (hI : mhIv S F I P) (h9 : t + 9 ≤ K.2.2.2.2.1) (h46 : K.2.2.2.2.1 ≤ 4608) (hkc : 11 ≤ kc) (hks : 359 ≤ ks) (kk : ∀ (kc2 ks2 : Nat), kc ≤ kc2 + 11 → ks ≤ ks2 + 359 → ∀ (S : List mhS) (F : mhF) (I : mhI) (J : mhJ) (P : mhP), mhIv S F I P → mhV l K mL_law kc2 ks2 Φ 1565 [some (.retAddr 0), some (.ref 0), some (.ref 21), some (.int (nI t))] [] S F I J P) : mhV l K mL_law kc ks Φ 913 [some (.retAddr 0), some (.ref 0), some (.ref 21), some (.int (nI t))] [] S F I J P := by
  have bc : mX6_ofWalker.2.2.2.2.cells + mX7_ofWalker.2.2.2.2.cells ≤ 11 := by decide
  have bs : mX6_ofWalker.2.2.2.2.slots + mX7_ofWalker.2.2.2.2.slots ≤ 359 := by decide
  refine mh_aload_1 dL_law_913 (q := 914) rfl ?_
  refine mh_aloadT_0 dL_law_914 (q := 915) rfl ?_
  refine mh_iload_3 dL_law_915 (q := 916) rfl ?_
  refine mh_iconst_1 dL_law_916 (q := 917) rfl ?_
  refine mh_iadd dL_law_917 (q := 918) rfl ?_
  refine mh_sld dL_law_918 (q := 919) rfl rfl (sIn (k := 1) h9 h46 (by decide)) ?_
  refine mh_aloadT_0 dL_law_919 (q := 920) rfl ?_
  refine mh_iload_3 dL_law_920 (q := 921) rfl ?_
  refine mh_iconst_2 dL_law_921 (q := 922) rfl ?_
  refine mh_iadd dL_law_922 (q := 923) rfl ?_
  refine mh_sld dL_law_923 (q := 924) rfl rfl (sIn (k := 2) h9 h46 (by decide)) ?_
  refine mh_callV2 ca_L_law_924 (shX6_0 hI.s6) (q := 927) rfl (by simp [Value.category]) ⟨by omega, by omega⟩ ?_
  refine pr_ofWalker (Ψ := fun x v S F I J P => mhV l K mL_law (kc - mX6_ofWalker.2.2.2.2.cells - mX7_ofWalker.2.2.2.2.cells) (ks - mX6_ofWalker.2.2.2.2.slots - mX7_ofWalker.2.2.2.2.slots) Φ 941 [some (.retAddr 0), some (.ref 0), some (.ref 21), some (.int (nI t))] (v.toList ++ [.int x]) S F I J P) hI (fun x S F I J P h7 hk2 => ?_) (fun x S F I J P hI => ?_)
  · skip
    refine mh_aload_2 dL_law_927 (q := 928) rfl ?_
    refine mh_aloadT_0 dL_law_928 (q := 929) rfl ?_
    refine mh_iload_3 dL_law_929 (q := 930) rfl ?_
    refine mh_iconst_1 dL_law_930 (q := 931) rfl ?_
    refine mh_iadd dL_law_931 (q := 932) rfl ?_
    refine mh_sld dL_law_932 (q := 933) rfl rfl (sIn (k := 1) h9 h46 (by decide)) ?_
    refine mh_aloadT_0 dL_law_933 (q := 934) rfl ?_
    refine mh_iload_3 dL_law_934 (q := 935) rfl ?_
    refine mh_iconst_2 dL_law_935 (q := 936) rfl ?_
    refine mh_iadd dL_law_936 (q := 937) rfl ?_
    refine mh_sld dL_law_937 (q := 938) rfl rfl (sIn (k := 2) h9 h46 (by decide)) ?_
    refine mh_callV2 ca_L_law_938 (shX7_0 h7) (q := 941) rfl (by simp [Value.category]) ⟨by omega, by omega⟩ ?_
    exact hk2
  · skip
    refine mh_icmp_eq dL_law_941 (tgt := 1565) (q := 944) rfl rfl (fun _ => ?_) (fun hh => absurd rfl hh)
    exact kk _ _ (by omega) (by omega) _ _ _ _ _ hI
set_option maxHeartbeats 4000000 in
set_option maxRecDepth 100000 in
theorem law_c16 {l : Launch} {K : mhX} {kc ks t : Nat} {Φ : mhQ} {S : List mhS} {F : mhF} {I : mhI} {J : mhJ} {P : mhP} (hI : mhIv S F I P) (h9 : t + 9 ≤ K.2.2.2.2.1) (h46 : K.2.2.2.2.1 ≤ 4608) (hkc : 11 ≤ kc) (hks : 359 ≤ ks) (kk : ∀ (kc2 ks2 : Nat), kc ≤ kc2 + 11 → ks ≤ ks2 + 359 → ∀ (S : List mhS) (F : mhF) (I : mhI) (J : mhJ) (P : mhP), mhIv S F I P → mhV l K mL_law kc2 ks2 Φ 1565 [some (.retAddr 0), some (.ref 0), some (.ref 21), some (.int (nI t))] [] S F I J P) : mhV l K mL_law kc ks Φ 946 [some (.retAddr 0), some (.ref 0), some (.ref 21), some (.int (nI t))] [] S F I J P := by
  have bc : mX6_shut.2.2.2.2.cells + mX7_shut.2.2.2.2.cells ≤ 11 := by decide
  have bs : mX6_shut.2.2.2.2.slots + mX7_shut.2.2.2.2.slots ≤ 359 := by decide
  refine mh_aload_1 dL_law_946 (q := 947) rfl ?_
  refine mh_aloadT_0 dL_law_947 (q := 948) rfl ?_
  refine mh_iload_3 dL_law_948 (q := 949) rfl ?_
  refine mh_iconst_1 dL_law_949 (q := 950) rfl ?_
  refine mh_iadd dL_law_950 (q := 951) rfl ?_
  refine mh_sld dL_law_951 (q := 952) rfl rfl (sIn (k := 1) h9 h46 (by decide)) ?_
  refine mh_callV1 ca_L_law_952 (shX6_0 hI.s6) (q := 955) rfl (by simp [Value.category]) ⟨by omega, by omega⟩ ?_
  refine pr_shut (Ψ := fun x v S F I J P => mhV l K mL_law (kc - mX6_shut.2.2.2.2.cells - mX7_shut.2.2.2.2.cells) (ks - mX6_shut.2.2.2.2.slots - mX7_shut.2.2.2.2.slots) Φ 964 [some (.retAddr 0), some (.ref 0), some (.ref 21), some (.int (nI t))] (v.toList ++ [.int x]) S F I J P) hI (fun x S F I J P h7 hk2 => ?_) (fun x S F I J P hI => ?_)
  · skip
    refine mh_aload_2 dL_law_955 (q := 956) rfl ?_
    refine mh_aloadT_0 dL_law_956 (q := 957) rfl ?_
    refine mh_iload_3 dL_law_957 (q := 958) rfl ?_
    refine mh_iconst_1 dL_law_958 (q := 959) rfl ?_
    refine mh_iadd dL_law_959 (q := 960) rfl ?_
    refine mh_sld dL_law_960 (q := 961) rfl rfl (sIn (k := 1) h9 h46 (by decide)) ?_
    refine mh_callV1 ca_L_law_961 (shX7_0 h7) (q := 964) rfl (by simp [Value.category]) ⟨by omega, by omega⟩ ?_
    exact hk2
  · skip
    refine mh_icmp_eq dL_law_964 (tgt := 1565) (q := 967) rfl rfl (fun _ => ?_) (fun hh => absurd rfl hh)
    exact kk _ _ (by omega) (by omega) _ _ _ _ _ hI
set_option maxHeartbeats 4000000 in
set_option maxRecDepth 100000 in
theorem law_c17 {l : Launch} {K : mhX} {kc ks t : Nat} {Φ : mhQ} {S : List mhS} {F : mhF} {I : mhI} {J : mhJ} {P : mhP} (hI : mhIv S F I P) (h9 : t + 9 ≤ K.2.2.2.2.1) (h46 : K.2.2.2.2.1 ≤ 4608) (hkc : 11 ≤ kc) (hks : 359 ≤ ks) (kk : ∀ (kc2 ks2 : Nat), kc ≤ kc2 + 11 → ks ≤ ks2 + 359 → ∀ (S : List mhS) (F : mhF) (I : mhI) (J : mhJ) (P : mhP), mhIv S F I P → mhV l K mL_law kc2 ks2 Φ 1565 [some (.retAddr 0), some (.ref 0), some (.ref 21), some (.int (nI t))] [] S F I J P) : mhV l K mL_law kc ks Φ 969 [some (.retAddr 0), some (.ref 0), some (.ref 21), some (.int (nI t))] [] S F I J P := by
  have bc : mX6_far.2.2.2.2.cells + mX7_far.2.2.2.2.cells ≤ 11 := by decide
  have bs : mX6_far.2.2.2.2.slots + mX7_far.2.2.2.2.slots ≤ 359 := by decide
  refine mh_aload_1 dL_law_969 (q := 970) rfl ?_
  refine mh_aloadT_0 dL_law_970 (q := 971) rfl ?_
  refine mh_iload_3 dL_law_971 (q := 972) rfl ?_
  refine mh_iconst_1 dL_law_972 (q := 973) rfl ?_
  refine mh_iadd dL_law_973 (q := 974) rfl ?_
  refine mh_sld dL_law_974 (q := 975) rfl rfl (sIn (k := 1) h9 h46 (by decide)) ?_
  refine mh_aloadT_0 dL_law_975 (q := 976) rfl ?_
  refine mh_iload_3 dL_law_976 (q := 977) rfl ?_
  refine mh_iconst_2 dL_law_977 (q := 978) rfl ?_
  refine mh_iadd dL_law_978 (q := 979) rfl ?_
  refine mh_sld dL_law_979 (q := 980) rfl rfl (sIn (k := 2) h9 h46 (by decide)) ?_
  refine mh_callV2 ca_L_law_980 (shX6_0 hI.s6) (q := 983) rfl (by simp [Value.category]) ⟨by omega, by omega⟩ ?_
  refine pr_far (Ψ := fun x v S F I J P => mhV l K mL_law (kc - mX6_far.2.2.2.2.cells - mX7_far.2.2.2.2.cells) (ks - mX6_far.2.2.2.2.slots - mX7_far.2.2.2.2.slots) Φ 997 [some (.retAddr 0), some (.ref 0), some (.ref 21), some (.int (nI t))] (v.toList ++ [.int x]) S F I J P) hI (fun x S F I J P h7 hk2 => ?_) (fun x S F I J P hI => ?_)
  · skip
    refine mh_aload_2 dL_law_983 (q := 984) rfl ?_
    refine mh_aloadT_0 dL_law_984 (q := 985) rfl ?_
    refine mh_iload_3 dL_law_985 (q := 986) rfl ?_
    refine mh_iconst_1 dL_law_986 (q := 987) rfl ?_
    refine mh_iadd dL_law_987 (q := 988) rfl ?_
    refine mh_sld dL_law_988 (q := 989) rfl rfl (sIn (k := 1) h9 h46 (by decide)) ?_
    refine mh_aloadT_0 dL_law_989 (q := 990) rfl ?_
    refine mh_iload_3 dL_law_990 (q := 991) rfl ?_
    refine mh_iconst_2 dL_law_991 (q := 992) rfl ?_
    refine mh_iadd dL_law_992 (q := 993) rfl ?_
    refine mh_sld dL_law_993 (q := 994) rfl rfl (sIn (k := 2) h9 h46 (by decide)) ?_
    refine mh_callV2 ca_L_law_994 (shX7_0 h7) (q := 997) rfl (by simp [Value.category]) ⟨by omega, by omega⟩ ?_
    exact hk2
  · skip
    refine mh_icmp_eq dL_law_997 (tgt := 1565) (q := 1000) rfl rfl (fun _ => ?_) (fun hh => absurd rfl hh)
    exact kk _ _ (by omega) (by omega) _ _ _ _ _ hI
set_option maxHeartbeats 4000000 in
set_option maxRecDepth 100000 in
theorem law_c18 {l : Launch} {K : mhX} {kc ks t : Nat} {Φ : mhQ} {S : List mhS} {F : mhF} {I : mhI} {J : mhJ} {P : mhP} (hI : mhIv S F I P) (h9 : t + 9 ≤ K.2.2.2.2.1) (h46 : K.2.2.2.2.1 ≤ 4608) (hkc : 11 ≤ kc) (hks : 359 ≤ ks) (kk : ∀ (kc2 ks2 : Nat), kc ≤ kc2 + 11 → ks ≤ ks2 + 359 → ∀ (S : List mhS) (F : mhF) (I : mhI) (J : mhJ) (P : mhP), mhIv S F I P → mhV l K mL_law kc2 ks2 Φ 1565 [some (.retAddr 0), some (.ref 0), some (.ref 21), some (.int (nI t))] [] S F I J P) : mhV l K mL_law kc ks Φ 1002 [some (.retAddr 0), some (.ref 0), some (.ref 21), some (.int (nI t))] [] S F I J P := by
  have bc : mX6_opened.2.2.2.2.cells + mX7_opened.2.2.2.2.cells ≤ 11 := by decide
  have bs : mX6_opened.2.2.2.2.slots + mX7_opened.2.2.2.2.slots ≤ 359 := by decide
  refine mh_aload_1 dL_law_1002 (q := 1003) rfl ?_
  refine mh_aloadT_0 dL_law_1003 (q := 1004) rfl ?_
  refine mh_iload_3 dL_law_1004 (q := 1005) rfl ?_
  refine mh_iconst_1 dL_law_1005 (q := 1006) rfl ?_
  refine mh_iadd dL_law_1006 (q := 1007) rfl ?_
  refine mh_sld dL_law_1007 (q := 1008) rfl rfl (sIn (k := 1) h9 h46 (by decide)) ?_
  refine mh_aloadT_0 dL_law_1008 (q := 1009) rfl ?_
  refine mh_iload_3 dL_law_1009 (q := 1010) rfl ?_
  refine mh_iconst_2 dL_law_1010 (q := 1011) rfl ?_
  refine mh_iadd dL_law_1011 (q := 1012) rfl ?_
  refine mh_sld dL_law_1012 (q := 1013) rfl rfl (sIn (k := 2) h9 h46 (by decide)) ?_
  refine mh_aloadT_0 dL_law_1013 (q := 1014) rfl ?_
  refine mh_iload_3 dL_law_1014 (q := 1015) rfl ?_
  refine mh_iconst_3 dL_law_1015 (q := 1016) rfl ?_
  refine mh_iadd dL_law_1016 (q := 1017) rfl ?_
  refine mh_sld dL_law_1017 (q := 1018) rfl rfl (sIn (k := 3) h9 h46 (by decide)) ?_
  refine mh_callV3 ca_L_law_1018 (shX6_0 hI.s6) (q := 1021) rfl (by simp [Value.category]) ⟨by omega, by omega⟩ ?_
  refine pr_opened (Ψ := fun x v S F I J P => mhV l K mL_law (kc - mX6_opened.2.2.2.2.cells - mX7_opened.2.2.2.2.cells) (ks - mX6_opened.2.2.2.2.slots - mX7_opened.2.2.2.2.slots) Φ 1040 [some (.retAddr 0), some (.ref 0), some (.ref 21), some (.int (nI t))] (v.toList ++ [.int x]) S F I J P) hI (fun x S F I J P h7 hk2 => ?_) (fun x S F I J P hI => ?_)
  · skip
    refine mh_aload_2 dL_law_1021 (q := 1022) rfl ?_
    refine mh_aloadT_0 dL_law_1022 (q := 1023) rfl ?_
    refine mh_iload_3 dL_law_1023 (q := 1024) rfl ?_
    refine mh_iconst_1 dL_law_1024 (q := 1025) rfl ?_
    refine mh_iadd dL_law_1025 (q := 1026) rfl ?_
    refine mh_sld dL_law_1026 (q := 1027) rfl rfl (sIn (k := 1) h9 h46 (by decide)) ?_
    refine mh_aloadT_0 dL_law_1027 (q := 1028) rfl ?_
    refine mh_iload_3 dL_law_1028 (q := 1029) rfl ?_
    refine mh_iconst_2 dL_law_1029 (q := 1030) rfl ?_
    refine mh_iadd dL_law_1030 (q := 1031) rfl ?_
    refine mh_sld dL_law_1031 (q := 1032) rfl rfl (sIn (k := 2) h9 h46 (by decide)) ?_
    refine mh_aloadT_0 dL_law_1032 (q := 1033) rfl ?_
    refine mh_iload_3 dL_law_1033 (q := 1034) rfl ?_
    refine mh_iconst_3 dL_law_1034 (q := 1035) rfl ?_
    refine mh_iadd dL_law_1035 (q := 1036) rfl ?_
    refine mh_sld dL_law_1036 (q := 1037) rfl rfl (sIn (k := 3) h9 h46 (by decide)) ?_
    refine mh_callV3 ca_L_law_1037 (shX7_0 h7) (q := 1040) rfl (by simp [Value.category]) ⟨by omega, by omega⟩ ?_
    exact hk2
  · skip
    refine mh_icmp_eq dL_law_1040 (tgt := 1565) (q := 1043) rfl rfl (fun _ => ?_) (fun hh => absurd rfl hh)
    exact kk _ _ (by omega) (by omega) _ _ _ _ _ hI
set_option maxHeartbeats 4000000 in
set_option maxRecDepth 100000 in
theorem law_c19 {l : Launch} {K : mhX} {kc ks t : Nat} {Φ : mhQ} {S : List mhS} {F : mhF} {I : mhI} {J : mhJ} {P : mhP} (hI : mhIv S F I P) (h9 : t + 9 ≤ K.2.2.2.2.1) (h46 : K.2.2.2.2.1 ≤ 4608) (hkc : 11 ≤ kc) (hks : 359 ≤ ks) (kk : ∀ (kc2 ks2 : Nat), kc ≤ kc2 + 11 → ks ≤ ks2 + 359 → ∀ (S : List mhS) (F : mhF) (I : mhI) (J : mhJ) (P : mhP), mhIv S F I P → mhV l K mL_law kc2 ks2 Φ 1565 [some (.retAddr 0), some (.ref 0), some (.ref 21), some (.int (nI t))] [] S F I J P) : mhV l K mL_law kc ks Φ 1045 [some (.retAddr 0), some (.ref 0), some (.ref 21), some (.int (nI t))] [] S F I J P := by
  have bc : mX6_keeps.2.2.2.2.cells + mX7_keeps.2.2.2.2.cells ≤ 11 := by decide
  have bs : mX6_keeps.2.2.2.2.slots + mX7_keeps.2.2.2.2.slots ≤ 359 := by decide
  refine mh_aload_1 dL_law_1045 (q := 1046) rfl ?_
  refine mh_aloadT_0 dL_law_1046 (q := 1047) rfl ?_
  refine mh_iload_3 dL_law_1047 (q := 1048) rfl ?_
  refine mh_iconst_1 dL_law_1048 (q := 1049) rfl ?_
  refine mh_iadd dL_law_1049 (q := 1050) rfl ?_
  refine mh_sld dL_law_1050 (q := 1051) rfl rfl (sIn (k := 1) h9 h46 (by decide)) ?_
  refine mh_aloadT_0 dL_law_1051 (q := 1052) rfl ?_
  refine mh_iload_3 dL_law_1052 (q := 1053) rfl ?_
  refine mh_iconst_2 dL_law_1053 (q := 1054) rfl ?_
  refine mh_iadd dL_law_1054 (q := 1055) rfl ?_
  refine mh_sld dL_law_1055 (q := 1056) rfl rfl (sIn (k := 2) h9 h46 (by decide)) ?_
  refine mh_aloadT_0 dL_law_1056 (q := 1057) rfl ?_
  refine mh_iload_3 dL_law_1057 (q := 1058) rfl ?_
  refine mh_iconst_3 dL_law_1058 (q := 1059) rfl ?_
  refine mh_iadd dL_law_1059 (q := 1060) rfl ?_
  refine mh_sld dL_law_1060 (q := 1061) rfl rfl (sIn (k := 3) h9 h46 (by decide)) ?_
  refine mh_aloadT_0 dL_law_1061 (q := 1062) rfl ?_
  refine mh_iload_3 dL_law_1062 (q := 1063) rfl ?_
  refine mh_iconst_4 dL_law_1063 (q := 1064) rfl ?_
  refine mh_iadd dL_law_1064 (q := 1065) rfl ?_
  refine mh_sld dL_law_1065 (q := 1066) rfl rfl (sIn (k := 4) h9 h46 (by decide)) ?_
  refine mh_aloadT_0 dL_law_1066 (q := 1067) rfl ?_
  refine mh_iload_3 dL_law_1067 (q := 1068) rfl ?_
  refine mh_iconst_5 dL_law_1068 (q := 1069) rfl ?_
  refine mh_iadd dL_law_1069 (q := 1070) rfl ?_
  refine mh_sld dL_law_1070 (q := 1071) rfl rfl (sIn (k := 5) h9 h46 (by decide)) ?_
  refine mh_aloadT_0 dL_law_1071 (q := 1072) rfl ?_
  refine mh_iload_3 dL_law_1072 (q := 1073) rfl ?_
  refine mh_bipush (v := 6) dL_law_1073 (q := 1075) rfl (by decide) ?_
  refine mh_iadd dL_law_1075 (q := 1076) rfl ?_
  refine mh_sld dL_law_1076 (q := 1077) rfl rfl (sIn (k := 6) h9 h46 (by decide)) ?_
  refine mh_aloadT_0 dL_law_1077 (q := 1078) rfl ?_
  refine mh_iload_3 dL_law_1078 (q := 1079) rfl ?_
  refine mh_bipush (v := 7) dL_law_1079 (q := 1081) rfl (by decide) ?_
  refine mh_iadd dL_law_1081 (q := 1082) rfl ?_
  refine mh_sld dL_law_1082 (q := 1083) rfl rfl (sIn (k := 7) h9 h46 (by decide)) ?_
  refine mh_aloadT_0 dL_law_1083 (q := 1084) rfl ?_
  refine mh_iload_3 dL_law_1084 (q := 1085) rfl ?_
  refine mh_bipush (v := 8) dL_law_1085 (q := 1087) rfl (by decide) ?_
  refine mh_iadd dL_law_1087 (q := 1088) rfl ?_
  refine mh_sld dL_law_1088 (q := 1089) rfl rfl (sIn (k := 8) h9 h46 (by decide)) ?_
  refine mh_callV8 ca_L_law_1089 (shX6_0 hI.s6) (q := 1092) rfl (by simp [Value.category]) ⟨by omega, by omega⟩ ?_
  refine pr_keeps (Ψ := fun x v S F I J P => mhV l K mL_law (kc - mX6_keeps.2.2.2.2.cells - mX7_keeps.2.2.2.2.cells) (ks - mX6_keeps.2.2.2.2.slots - mX7_keeps.2.2.2.2.slots) Φ 1139 [some (.retAddr 0), some (.ref 0), some (.ref 21), some (.int (nI t))] (v.toList ++ [.int x]) S F I J P) hI (fun x S F I J P h7 hk2 => ?_) (fun x S F I J P hI => ?_)
  · skip
    refine mh_aload_2 dL_law_1092 (q := 1093) rfl ?_
    refine mh_aloadT_0 dL_law_1093 (q := 1094) rfl ?_
    refine mh_iload_3 dL_law_1094 (q := 1095) rfl ?_
    refine mh_iconst_1 dL_law_1095 (q := 1096) rfl ?_
    refine mh_iadd dL_law_1096 (q := 1097) rfl ?_
    refine mh_sld dL_law_1097 (q := 1098) rfl rfl (sIn (k := 1) h9 h46 (by decide)) ?_
    refine mh_aloadT_0 dL_law_1098 (q := 1099) rfl ?_
    refine mh_iload_3 dL_law_1099 (q := 1100) rfl ?_
    refine mh_iconst_2 dL_law_1100 (q := 1101) rfl ?_
    refine mh_iadd dL_law_1101 (q := 1102) rfl ?_
    refine mh_sld dL_law_1102 (q := 1103) rfl rfl (sIn (k := 2) h9 h46 (by decide)) ?_
    refine mh_aloadT_0 dL_law_1103 (q := 1104) rfl ?_
    refine mh_iload_3 dL_law_1104 (q := 1105) rfl ?_
    refine mh_iconst_3 dL_law_1105 (q := 1106) rfl ?_
    refine mh_iadd dL_law_1106 (q := 1107) rfl ?_
    refine mh_sld dL_law_1107 (q := 1108) rfl rfl (sIn (k := 3) h9 h46 (by decide)) ?_
    refine mh_aloadT_0 dL_law_1108 (q := 1109) rfl ?_
    refine mh_iload_3 dL_law_1109 (q := 1110) rfl ?_
    refine mh_iconst_4 dL_law_1110 (q := 1111) rfl ?_
    refine mh_iadd dL_law_1111 (q := 1112) rfl ?_
    refine mh_sld dL_law_1112 (q := 1113) rfl rfl (sIn (k := 4) h9 h46 (by decide)) ?_
    refine mh_aloadT_0 dL_law_1113 (q := 1114) rfl ?_
    refine mh_iload_3 dL_law_1114 (q := 1115) rfl ?_
    refine mh_iconst_5 dL_law_1115 (q := 1116) rfl ?_
    refine mh_iadd dL_law_1116 (q := 1117) rfl ?_
    refine mh_sld dL_law_1117 (q := 1118) rfl rfl (sIn (k := 5) h9 h46 (by decide)) ?_
    refine mh_aloadT_0 dL_law_1118 (q := 1119) rfl ?_
    refine mh_iload_3 dL_law_1119 (q := 1120) rfl ?_
    refine mh_bipush (v := 6) dL_law_1120 (q := 1122) rfl (by decide) ?_
    refine mh_iadd dL_law_1122 (q := 1123) rfl ?_
    refine mh_sld dL_law_1123 (q := 1124) rfl rfl (sIn (k := 6) h9 h46 (by decide)) ?_
    refine mh_aloadT_0 dL_law_1124 (q := 1125) rfl ?_
    refine mh_iload_3 dL_law_1125 (q := 1126) rfl ?_
    refine mh_bipush (v := 7) dL_law_1126 (q := 1128) rfl (by decide) ?_
    refine mh_iadd dL_law_1128 (q := 1129) rfl ?_
    refine mh_sld dL_law_1129 (q := 1130) rfl rfl (sIn (k := 7) h9 h46 (by decide)) ?_
    refine mh_aloadT_0 dL_law_1130 (q := 1131) rfl ?_
    refine mh_iload_3 dL_law_1131 (q := 1132) rfl ?_
    refine mh_bipush (v := 8) dL_law_1132 (q := 1134) rfl (by decide) ?_
    refine mh_iadd dL_law_1134 (q := 1135) rfl ?_
    refine mh_sld dL_law_1135 (q := 1136) rfl rfl (sIn (k := 8) h9 h46 (by decide)) ?_
    refine mh_callV8 ca_L_law_1136 (shX7_0 h7) (q := 1139) rfl (by simp [Value.category]) ⟨by omega, by omega⟩ ?_
    exact hk2
  · skip
    refine mh_icmp_eq dL_law_1139 (tgt := 1565) (q := 1142) rfl rfl (fun _ => ?_) (fun hh => absurd rfl hh)
    exact kk _ _ (by omega) (by omega) _ _ _ _ _ hI
set_option maxHeartbeats 4000000 in
set_option maxRecDepth 100000 in
theorem law_c20 {l : Launch} {K : mhX} {kc ks t : Nat} {Φ : mhQ} {S : List mhS} {F : mhF} {I : mhI} {J : mhJ} {P : mhP} (hI : mhIv S F I P) (h9 : t + 9 ≤ K.2.2.2.2.1) (h46 : K.2.2.2.2.1 ≤ 4608) (hkc : 11 ≤ kc) (hks : 359 ≤ ks) (kk : ∀ (kc2 ks2 : Nat), kc ≤ kc2 + 11 → ks ≤ ks2 + 359 → ∀ (S : List mhS) (F : mhF) (I : mhI) (J : mhJ) (P : mhP), mhIv S F I P → mhV l K mL_law kc2 ks2 Φ 1565 [some (.retAddr 0), some (.ref 0), some (.ref 21), some (.int (nI t))] [] S F I J P) : mhV l K mL_law kc ks Φ 1144 [some (.retAddr 0), some (.ref 0), some (.ref 21), some (.int (nI t))] [] S F I J P := by
  have bc : mX6_changed.2.2.2.2.cells + mX7_changed.2.2.2.2.cells ≤ 11 := by decide
  have bs : mX6_changed.2.2.2.2.slots + mX7_changed.2.2.2.2.slots ≤ 359 := by decide
  refine mh_aload_1 dL_law_1144 (q := 1145) rfl ?_
  refine mh_aloadT_0 dL_law_1145 (q := 1146) rfl ?_
  refine mh_iload_3 dL_law_1146 (q := 1147) rfl ?_
  refine mh_iconst_1 dL_law_1147 (q := 1148) rfl ?_
  refine mh_iadd dL_law_1148 (q := 1149) rfl ?_
  refine mh_sld dL_law_1149 (q := 1150) rfl rfl (sIn (k := 1) h9 h46 (by decide)) ?_
  refine mh_aloadT_0 dL_law_1150 (q := 1151) rfl ?_
  refine mh_iload_3 dL_law_1151 (q := 1152) rfl ?_
  refine mh_iconst_2 dL_law_1152 (q := 1153) rfl ?_
  refine mh_iadd dL_law_1153 (q := 1154) rfl ?_
  refine mh_sld dL_law_1154 (q := 1155) rfl rfl (sIn (k := 2) h9 h46 (by decide)) ?_
  refine mh_callV2 ca_L_law_1155 (shX6_0 hI.s6) (q := 1158) rfl (by simp [Value.category]) ⟨by omega, by omega⟩ ?_
  refine pr_changed (Ψ := fun x v S F I J P => mhV l K mL_law (kc - mX6_changed.2.2.2.2.cells - mX7_changed.2.2.2.2.cells) (ks - mX6_changed.2.2.2.2.slots - mX7_changed.2.2.2.2.slots) Φ 1172 [some (.retAddr 0), some (.ref 0), some (.ref 21), some (.int (nI t))] (v.toList ++ [.long x]) S F I J P) hI (fun x S F I J P h7 hk2 => ?_) (fun x S F I J P hI => ?_)
  · skip
    refine mh_aload_2 dL_law_1158 (q := 1159) rfl ?_
    refine mh_aloadT_0 dL_law_1159 (q := 1160) rfl ?_
    refine mh_iload_3 dL_law_1160 (q := 1161) rfl ?_
    refine mh_iconst_1 dL_law_1161 (q := 1162) rfl ?_
    refine mh_iadd dL_law_1162 (q := 1163) rfl ?_
    refine mh_sld dL_law_1163 (q := 1164) rfl rfl (sIn (k := 1) h9 h46 (by decide)) ?_
    refine mh_aloadT_0 dL_law_1164 (q := 1165) rfl ?_
    refine mh_iload_3 dL_law_1165 (q := 1166) rfl ?_
    refine mh_iconst_2 dL_law_1166 (q := 1167) rfl ?_
    refine mh_iadd dL_law_1167 (q := 1168) rfl ?_
    refine mh_sld dL_law_1168 (q := 1169) rfl rfl (sIn (k := 2) h9 h46 (by decide)) ?_
    refine mh_callV2 ca_L_law_1169 (shX7_0 h7) (q := 1172) rfl (by simp [Value.category]) ⟨by omega, by omega⟩ ?_
    exact hk2
  · skip
    refine mh_lcmp dL_law_1172 (q := 1173) rfl ?_
    refine mh_if_eq dL_law_1173 (tgt := 1565) (q := 1176) rfl rfl (fun _ => ?_) (fun hh => absurd (lg_cmp_rfl _) hh)
    exact kk _ _ (by omega) (by omega) _ _ _ _ _ hI
set_option maxHeartbeats 4000000 in
set_option maxRecDepth 100000 in
theorem law_c21 {l : Launch} {K : mhX} {kc ks t : Nat} {Φ : mhQ} {S : List mhS} {F : mhF} {I : mhI} {J : mhJ} {P : mhP} (hI : mhIv S F I P) (h9 : t + 9 ≤ K.2.2.2.2.1) (h46 : K.2.2.2.2.1 ≤ 4608) (hkc : 11 ≤ kc) (hks : 359 ≤ ks) (kk : ∀ (kc2 ks2 : Nat), kc ≤ kc2 + 11 → ks ≤ ks2 + 359 → ∀ (S : List mhS) (F : mhF) (I : mhI) (J : mhJ) (P : mhP), mhIv S F I P → mhV l K mL_law kc2 ks2 Φ 1565 [some (.retAddr 0), some (.ref 0), some (.ref 21), some (.int (nI t))] [] S F I J P) : mhV l K mL_law kc ks Φ 1178 [some (.retAddr 0), some (.ref 0), some (.ref 21), some (.int (nI t))] [] S F I J P := by
  have bc : mX6_change.2.2.2.2.cells + mX7_change.2.2.2.2.cells ≤ 11 := by decide
  have bs : mX6_change.2.2.2.2.slots + mX7_change.2.2.2.2.slots ≤ 359 := by decide
  refine mh_aload_1 dL_law_1178 (q := 1179) rfl ?_
  refine mh_aloadT_0 dL_law_1179 (q := 1180) rfl ?_
  refine mh_iload_3 dL_law_1180 (q := 1181) rfl ?_
  refine mh_iconst_1 dL_law_1181 (q := 1182) rfl ?_
  refine mh_iadd dL_law_1182 (q := 1183) rfl ?_
  refine mh_sld dL_law_1183 (q := 1184) rfl rfl (sIn (k := 1) h9 h46 (by decide)) ?_
  refine mh_aloadT_0 dL_law_1184 (q := 1185) rfl ?_
  refine mh_iload_3 dL_law_1185 (q := 1186) rfl ?_
  refine mh_iconst_2 dL_law_1186 (q := 1187) rfl ?_
  refine mh_iadd dL_law_1187 (q := 1188) rfl ?_
  refine mh_sld dL_law_1188 (q := 1189) rfl rfl (sIn (k := 2) h9 h46 (by decide)) ?_
  refine mh_aloadT_0 dL_law_1189 (q := 1190) rfl ?_
  refine mh_iload_3 dL_law_1190 (q := 1191) rfl ?_
  refine mh_iconst_3 dL_law_1191 (q := 1192) rfl ?_
  refine mh_iadd dL_law_1192 (q := 1193) rfl ?_
  refine mh_sld dL_law_1193 (q := 1194) rfl rfl (sIn (k := 3) h9 h46 (by decide)) ?_
  refine mh_callV3 ca_L_law_1194 (shX6_0 hI.s6) (q := 1197) rfl (by simp [Value.category]) ⟨by omega, by omega⟩ ?_
  refine pr_change (Ψ := fun x v S F I J P => mhV l K mL_law (kc - mX6_change.2.2.2.2.cells - mX7_change.2.2.2.2.cells) (ks - mX6_change.2.2.2.2.slots - mX7_change.2.2.2.2.slots) Φ 1216 [some (.retAddr 0), some (.ref 0), some (.ref 21), some (.int (nI t))] (v.toList ++ [.int x]) S F I J P) hI (fun x S F I J P h7 hk2 => ?_) (fun x S F I J P hI => ?_)
  · skip
    refine mh_aload_2 dL_law_1197 (q := 1198) rfl ?_
    refine mh_aloadT_0 dL_law_1198 (q := 1199) rfl ?_
    refine mh_iload_3 dL_law_1199 (q := 1200) rfl ?_
    refine mh_iconst_1 dL_law_1200 (q := 1201) rfl ?_
    refine mh_iadd dL_law_1201 (q := 1202) rfl ?_
    refine mh_sld dL_law_1202 (q := 1203) rfl rfl (sIn (k := 1) h9 h46 (by decide)) ?_
    refine mh_aloadT_0 dL_law_1203 (q := 1204) rfl ?_
    refine mh_iload_3 dL_law_1204 (q := 1205) rfl ?_
    refine mh_iconst_2 dL_law_1205 (q := 1206) rfl ?_
    refine mh_iadd dL_law_1206 (q := 1207) rfl ?_
    refine mh_sld dL_law_1207 (q := 1208) rfl rfl (sIn (k := 2) h9 h46 (by decide)) ?_
    refine mh_aloadT_0 dL_law_1208 (q := 1209) rfl ?_
    refine mh_iload_3 dL_law_1209 (q := 1210) rfl ?_
    refine mh_iconst_3 dL_law_1210 (q := 1211) rfl ?_
    refine mh_iadd dL_law_1211 (q := 1212) rfl ?_
    refine mh_sld dL_law_1212 (q := 1213) rfl rfl (sIn (k := 3) h9 h46 (by decide)) ?_
    refine mh_callV3 ca_L_law_1213 (shX7_0 h7) (q := 1216) rfl (by simp [Value.category]) ⟨by omega, by omega⟩ ?_
    exact hk2
  · skip
    refine mh_icmp_eq dL_law_1216 (tgt := 1565) (q := 1219) rfl rfl (fun _ => ?_) (fun hh => absurd rfl hh)
    exact kk _ _ (by omega) (by omega) _ _ _ _ _ hI
set_option maxHeartbeats 4000000 in
set_option maxRecDepth 100000 in
theorem law_c22 {l : Launch} {K : mhX} {kc ks t : Nat} {Φ : mhQ} {S : List mhS} {F : mhF} {I : mhI} {J : mhJ} {P : mhP} (hI : mhIv S F I P) (h9 : t + 9 ≤ K.2.2.2.2.1) (h46 : K.2.2.2.2.1 ≤ 4608) (hkc : 11 ≤ kc) (hks : 359 ≤ ks) (kk : ∀ (kc2 ks2 : Nat), kc ≤ kc2 + 11 → ks ≤ ks2 + 359 → ∀ (S : List mhS) (F : mhF) (I : mhI) (J : mhJ) (P : mhP), mhIv S F I P → mhV l K mL_law kc2 ks2 Φ 1565 [some (.retAddr 0), some (.ref 0), some (.ref 21), some (.int (nI t))] [] S F I J P) : mhV l K mL_law kc ks Φ 1221 [some (.retAddr 0), some (.ref 0), some (.ref 21), some (.int (nI t))] [] S F I J P := by
  have bc : mX6_sheet.2.2.2.2.cells + mX7_sheet.2.2.2.2.cells ≤ 11 := by decide
  have bs : mX6_sheet.2.2.2.2.slots + mX7_sheet.2.2.2.2.slots ≤ 359 := by decide
  refine mh_aload_1 dL_law_1221 (q := 1222) rfl ?_
  refine mh_aloadT_0 dL_law_1222 (q := 1223) rfl ?_
  refine mh_iload_3 dL_law_1223 (q := 1224) rfl ?_
  refine mh_iconst_1 dL_law_1224 (q := 1225) rfl ?_
  refine mh_iadd dL_law_1225 (q := 1226) rfl ?_
  refine mh_sld dL_law_1226 (q := 1227) rfl rfl (sIn (k := 1) h9 h46 (by decide)) ?_
  refine mh_aloadT_0 dL_law_1227 (q := 1228) rfl ?_
  refine mh_iload_3 dL_law_1228 (q := 1229) rfl ?_
  refine mh_iconst_2 dL_law_1229 (q := 1230) rfl ?_
  refine mh_iadd dL_law_1230 (q := 1231) rfl ?_
  refine mh_sld dL_law_1231 (q := 1232) rfl rfl (sIn (k := 2) h9 h46 (by decide)) ?_
  refine mh_aloadT_0 dL_law_1232 (q := 1233) rfl ?_
  refine mh_iload_3 dL_law_1233 (q := 1234) rfl ?_
  refine mh_iconst_3 dL_law_1234 (q := 1235) rfl ?_
  refine mh_iadd dL_law_1235 (q := 1236) rfl ?_
  refine mh_sld dL_law_1236 (q := 1237) rfl rfl (sIn (k := 3) h9 h46 (by decide)) ?_
  refine mh_callV3 ca_L_law_1237 (shX6_0 hI.s6) (q := 1240) rfl (by simp [Value.category]) ⟨by omega, by omega⟩ ?_
  refine pr_sheet (Ψ := fun x v S F I J P => mhV l K mL_law (kc - mX6_sheet.2.2.2.2.cells - mX7_sheet.2.2.2.2.cells) (ks - mX6_sheet.2.2.2.2.slots - mX7_sheet.2.2.2.2.slots) Φ 1259 [some (.retAddr 0), some (.ref 0), some (.ref 21), some (.int (nI t))] (v.toList ++ [.int x]) S F I J P) hI (fun x S F I J P h7 hk2 => ?_) (fun x S F I J P hI => ?_)
  · skip
    refine mh_aload_2 dL_law_1240 (q := 1241) rfl ?_
    refine mh_aloadT_0 dL_law_1241 (q := 1242) rfl ?_
    refine mh_iload_3 dL_law_1242 (q := 1243) rfl ?_
    refine mh_iconst_1 dL_law_1243 (q := 1244) rfl ?_
    refine mh_iadd dL_law_1244 (q := 1245) rfl ?_
    refine mh_sld dL_law_1245 (q := 1246) rfl rfl (sIn (k := 1) h9 h46 (by decide)) ?_
    refine mh_aloadT_0 dL_law_1246 (q := 1247) rfl ?_
    refine mh_iload_3 dL_law_1247 (q := 1248) rfl ?_
    refine mh_iconst_2 dL_law_1248 (q := 1249) rfl ?_
    refine mh_iadd dL_law_1249 (q := 1250) rfl ?_
    refine mh_sld dL_law_1250 (q := 1251) rfl rfl (sIn (k := 2) h9 h46 (by decide)) ?_
    refine mh_aloadT_0 dL_law_1251 (q := 1252) rfl ?_
    refine mh_iload_3 dL_law_1252 (q := 1253) rfl ?_
    refine mh_iconst_3 dL_law_1253 (q := 1254) rfl ?_
    refine mh_iadd dL_law_1254 (q := 1255) rfl ?_
    refine mh_sld dL_law_1255 (q := 1256) rfl rfl (sIn (k := 3) h9 h46 (by decide)) ?_
    refine mh_callV3 ca_L_law_1256 (shX7_0 h7) (q := 1259) rfl (by simp [Value.category]) ⟨by omega, by omega⟩ ?_
    exact hk2
  · skip
    refine mh_icmp_eq dL_law_1259 (tgt := 1565) (q := 1262) rfl rfl (fun _ => ?_) (fun hh => absurd rfl hh)
    exact kk _ _ (by omega) (by omega) _ _ _ _ _ hI
set_option maxHeartbeats 4000000 in
set_option maxRecDepth 100000 in
theorem law_c23 {l : Launch} {K : mhX} {kc ks t : Nat} {Φ : mhQ} {S : List mhS} {F : mhF} {I : mhI} {J : mhJ} {P : mhP} (hI : mhIv S F I P) (h9 : t + 9 ≤ K.2.2.2.2.1) (h46 : K.2.2.2.2.1 ≤ 4608) (hkc : 11 ≤ kc) (hks : 359 ≤ ks) (kk : ∀ (kc2 ks2 : Nat), kc ≤ kc2 + 11 → ks ≤ ks2 + 359 → ∀ (S : List mhS) (F : mhF) (I : mhI) (J : mhJ) (P : mhP), mhIv S F I P → mhV l K mL_law kc2 ks2 Φ 1565 [some (.retAddr 0), some (.ref 0), some (.ref 21), some (.int (nI t))] [] S F I J P) : mhV l K mL_law kc ks Φ 1264 [some (.retAddr 0), some (.ref 0), some (.ref 21), some (.int (nI t))] [] S F I J P := by
  have bc : mX6_lose.2.2.2.2.cells + mX7_lose.2.2.2.2.cells ≤ 11 := by decide
  have bs : mX6_lose.2.2.2.2.slots + mX7_lose.2.2.2.2.slots ≤ 359 := by decide
  refine mh_aload_1 dL_law_1264 (q := 1265) rfl ?_
  refine mh_aloadT_0 dL_law_1265 (q := 1266) rfl ?_
  refine mh_iload_3 dL_law_1266 (q := 1267) rfl ?_
  refine mh_iconst_1 dL_law_1267 (q := 1268) rfl ?_
  refine mh_iadd dL_law_1268 (q := 1269) rfl ?_
  refine mh_sld dL_law_1269 (q := 1270) rfl rfl (sIn (k := 1) h9 h46 (by decide)) ?_
  refine mh_callV1 ca_L_law_1270 (shX6_0 hI.s6) (q := 1273) rfl (by simp [Value.category]) ⟨by omega, by omega⟩ ?_
  refine pr_lose (Ψ := fun x v S F I J P => mhV l K mL_law (kc - mX6_lose.2.2.2.2.cells - mX7_lose.2.2.2.2.cells) (ks - mX6_lose.2.2.2.2.slots - mX7_lose.2.2.2.2.slots) Φ 1282 [some (.retAddr 0), some (.ref 0), some (.ref 21), some (.int (nI t))] (v.toList ++ [.int x]) S F I J P) hI (fun x S F I J P h7 hk2 => ?_) (fun x S F I J P hI => ?_)
  · skip
    refine mh_aload_2 dL_law_1273 (q := 1274) rfl ?_
    refine mh_aloadT_0 dL_law_1274 (q := 1275) rfl ?_
    refine mh_iload_3 dL_law_1275 (q := 1276) rfl ?_
    refine mh_iconst_1 dL_law_1276 (q := 1277) rfl ?_
    refine mh_iadd dL_law_1277 (q := 1278) rfl ?_
    refine mh_sld dL_law_1278 (q := 1279) rfl rfl (sIn (k := 1) h9 h46 (by decide)) ?_
    refine mh_callV1 ca_L_law_1279 (shX7_0 h7) (q := 1282) rfl (by simp [Value.category]) ⟨by omega, by omega⟩ ?_
    exact hk2
  · skip
    refine mh_icmp_eq dL_law_1282 (tgt := 1565) (q := 1285) rfl rfl (fun _ => ?_) (fun hh => absurd rfl hh)
    exact kk _ _ (by omega) (by omega) _ _ _ _ _ hI
set_option maxHeartbeats 4000000 in
set_option maxRecDepth 100000 in
theorem law_c24 {l : Launch} {K : mhX} {kc ks t : Nat} {Φ : mhQ} {S : List mhS} {F : mhF} {I : mhI} {J : mhJ} {P : mhP} (hI : mhIv S F I P) (h9 : t + 9 ≤ K.2.2.2.2.1) (h46 : K.2.2.2.2.1 ≤ 4608) (hkc : 11 ≤ kc) (hks : 359 ≤ ks) (kk : ∀ (kc2 ks2 : Nat), kc ≤ kc2 + 11 → ks ≤ ks2 + 359 → ∀ (S : List mhS) (F : mhF) (I : mhI) (J : mhJ) (P : mhP), mhIv S F I P → mhV l K mL_law kc2 ks2 Φ 1565 [some (.retAddr 0), some (.ref 0), some (.ref 21), some (.int (nI t))] [] S F I J P) : mhV l K mL_law kc ks Φ 1287 [some (.retAddr 0), some (.ref 0), some (.ref 21), some (.int (nI t))] [] S F I J P := by
  have bc : mX6_put.2.2.2.2.cells + mX7_put.2.2.2.2.cells ≤ 11 := by decide
  have bs : mX6_put.2.2.2.2.slots + mX7_put.2.2.2.2.slots ≤ 359 := by decide
  refine mh_aload_1 dL_law_1287 (q := 1288) rfl ?_
  refine mh_aloadT_0 dL_law_1288 (q := 1289) rfl ?_
  refine mh_iload_3 dL_law_1289 (q := 1290) rfl ?_
  refine mh_iconst_1 dL_law_1290 (q := 1291) rfl ?_
  refine mh_iadd dL_law_1291 (q := 1292) rfl ?_
  refine mh_sld dL_law_1292 (q := 1293) rfl rfl (sIn (k := 1) h9 h46 (by decide)) ?_
  refine mh_aloadT_0 dL_law_1293 (q := 1294) rfl ?_
  refine mh_iload_3 dL_law_1294 (q := 1295) rfl ?_
  refine mh_iconst_2 dL_law_1295 (q := 1296) rfl ?_
  refine mh_iadd dL_law_1296 (q := 1297) rfl ?_
  refine mh_sld dL_law_1297 (q := 1298) rfl rfl (sIn (k := 2) h9 h46 (by decide)) ?_
  refine mh_aloadT_0 dL_law_1298 (q := 1299) rfl ?_
  refine mh_iload_3 dL_law_1299 (q := 1300) rfl ?_
  refine mh_iconst_3 dL_law_1300 (q := 1301) rfl ?_
  refine mh_iadd dL_law_1301 (q := 1302) rfl ?_
  refine mh_sld dL_law_1302 (q := 1303) rfl rfl (sIn (k := 3) h9 h46 (by decide)) ?_
  refine mh_callV3 ca_L_law_1303 (shX6_0 hI.s6) (q := 1306) rfl (by simp [Value.category]) ⟨by omega, by omega⟩ ?_
  refine pr_put (Ψ := fun x v S F I J P => mhV l K mL_law (kc - mX6_put.2.2.2.2.cells - mX7_put.2.2.2.2.cells) (ks - mX6_put.2.2.2.2.slots - mX7_put.2.2.2.2.slots) Φ 1325 [some (.retAddr 0), some (.ref 0), some (.ref 21), some (.int (nI t))] (v.toList ++ [.int x]) S F I J P) hI (fun x S F I J P h7 hk2 => ?_) (fun x S F I J P hI => ?_)
  · skip
    refine mh_aload_2 dL_law_1306 (q := 1307) rfl ?_
    refine mh_aloadT_0 dL_law_1307 (q := 1308) rfl ?_
    refine mh_iload_3 dL_law_1308 (q := 1309) rfl ?_
    refine mh_iconst_1 dL_law_1309 (q := 1310) rfl ?_
    refine mh_iadd dL_law_1310 (q := 1311) rfl ?_
    refine mh_sld dL_law_1311 (q := 1312) rfl rfl (sIn (k := 1) h9 h46 (by decide)) ?_
    refine mh_aloadT_0 dL_law_1312 (q := 1313) rfl ?_
    refine mh_iload_3 dL_law_1313 (q := 1314) rfl ?_
    refine mh_iconst_2 dL_law_1314 (q := 1315) rfl ?_
    refine mh_iadd dL_law_1315 (q := 1316) rfl ?_
    refine mh_sld dL_law_1316 (q := 1317) rfl rfl (sIn (k := 2) h9 h46 (by decide)) ?_
    refine mh_aloadT_0 dL_law_1317 (q := 1318) rfl ?_
    refine mh_iload_3 dL_law_1318 (q := 1319) rfl ?_
    refine mh_iconst_3 dL_law_1319 (q := 1320) rfl ?_
    refine mh_iadd dL_law_1320 (q := 1321) rfl ?_
    refine mh_sld dL_law_1321 (q := 1322) rfl rfl (sIn (k := 3) h9 h46 (by decide)) ?_
    refine mh_callV3 ca_L_law_1322 (shX7_0 h7) (q := 1325) rfl (by simp [Value.category]) ⟨by omega, by omega⟩ ?_
    exact hk2
  · skip
    refine mh_icmp_eq dL_law_1325 (tgt := 1565) (q := 1328) rfl rfl (fun _ => ?_) (fun hh => absurd rfl hh)
    exact kk _ _ (by omega) (by omega) _ _ _ _ _ hI
set_option maxHeartbeats 4000000 in
set_option maxRecDepth 100000 in
theorem law_c25 {l : Launch} {K : mhX} {kc ks t : Nat} {Φ : mhQ} {S : List mhS} {F : mhF} {I : mhI} {J : mhJ} {P : mhP} (hI : mhIv S F I P) (h9 : t + 9 ≤ K.2.2.2.2.1) (h46 : K.2.2.2.2.1 ≤ 4608) (hkc : 11 ≤ kc) (hks : 359 ≤ ks) (kk : ∀ (kc2 ks2 : Nat), kc ≤ kc2 + 11 → ks ≤ ks2 + 359 → ∀ (S : List mhS) (F : mhF) (I : mhI) (J : mhJ) (P : mhP), mhIv S F I P → mhV l K mL_law kc2 ks2 Φ 1565 [some (.retAddr 0), some (.ref 0), some (.ref 21), some (.int (nI t))] [] S F I J P) : mhV l K mL_law kc ks Φ 1330 [some (.retAddr 0), some (.ref 0), some (.ref 21), some (.int (nI t))] [] S F I J P := by
  have bc : mX6_cell.2.2.2.2.cells + mX7_cell.2.2.2.2.cells ≤ 11 := by decide
  have bs : mX6_cell.2.2.2.2.slots + mX7_cell.2.2.2.2.slots ≤ 359 := by decide
  refine mh_aload_1 dL_law_1330 (q := 1331) rfl ?_
  refine mh_aloadT_0 dL_law_1331 (q := 1332) rfl ?_
  refine mh_iload_3 dL_law_1332 (q := 1333) rfl ?_
  refine mh_iconst_1 dL_law_1333 (q := 1334) rfl ?_
  refine mh_iadd dL_law_1334 (q := 1335) rfl ?_
  refine mh_sld dL_law_1335 (q := 1336) rfl rfl (sIn (k := 1) h9 h46 (by decide)) ?_
  refine mh_aloadT_0 dL_law_1336 (q := 1337) rfl ?_
  refine mh_iload_3 dL_law_1337 (q := 1338) rfl ?_
  refine mh_iconst_2 dL_law_1338 (q := 1339) rfl ?_
  refine mh_iadd dL_law_1339 (q := 1340) rfl ?_
  refine mh_sld dL_law_1340 (q := 1341) rfl rfl (sIn (k := 2) h9 h46 (by decide)) ?_
  refine mh_aloadT_0 dL_law_1341 (q := 1342) rfl ?_
  refine mh_iload_3 dL_law_1342 (q := 1343) rfl ?_
  refine mh_iconst_3 dL_law_1343 (q := 1344) rfl ?_
  refine mh_iadd dL_law_1344 (q := 1345) rfl ?_
  refine mh_sld dL_law_1345 (q := 1346) rfl rfl (sIn (k := 3) h9 h46 (by decide)) ?_
  refine mh_callV3 ca_L_law_1346 (shX6_0 hI.s6) (q := 1349) rfl (by simp [Value.category]) ⟨by omega, by omega⟩ ?_
  refine pr_cell (Ψ := fun x v S F I J P => mhV l K mL_law (kc - mX6_cell.2.2.2.2.cells - mX7_cell.2.2.2.2.cells) (ks - mX6_cell.2.2.2.2.slots - mX7_cell.2.2.2.2.slots) Φ 1368 [some (.retAddr 0), some (.ref 0), some (.ref 21), some (.int (nI t))] (v.toList ++ [.long x]) S F I J P) hI (fun x S F I J P h7 hk2 => ?_) (fun x S F I J P hI => ?_)
  · skip
    refine mh_aload_2 dL_law_1349 (q := 1350) rfl ?_
    refine mh_aloadT_0 dL_law_1350 (q := 1351) rfl ?_
    refine mh_iload_3 dL_law_1351 (q := 1352) rfl ?_
    refine mh_iconst_1 dL_law_1352 (q := 1353) rfl ?_
    refine mh_iadd dL_law_1353 (q := 1354) rfl ?_
    refine mh_sld dL_law_1354 (q := 1355) rfl rfl (sIn (k := 1) h9 h46 (by decide)) ?_
    refine mh_aloadT_0 dL_law_1355 (q := 1356) rfl ?_
    refine mh_iload_3 dL_law_1356 (q := 1357) rfl ?_
    refine mh_iconst_2 dL_law_1357 (q := 1358) rfl ?_
    refine mh_iadd dL_law_1358 (q := 1359) rfl ?_
    refine mh_sld dL_law_1359 (q := 1360) rfl rfl (sIn (k := 2) h9 h46 (by decide)) ?_
    refine mh_aloadT_0 dL_law_1360 (q := 1361) rfl ?_
    refine mh_iload_3 dL_law_1361 (q := 1362) rfl ?_
    refine mh_iconst_3 dL_law_1362 (q := 1363) rfl ?_
    refine mh_iadd dL_law_1363 (q := 1364) rfl ?_
    refine mh_sld dL_law_1364 (q := 1365) rfl rfl (sIn (k := 3) h9 h46 (by decide)) ?_
    refine mh_callV3 ca_L_law_1365 (shX7_0 h7) (q := 1368) rfl (by simp [Value.category]) ⟨by omega, by omega⟩ ?_
    exact hk2
  · skip
    refine mh_lcmp dL_law_1368 (q := 1369) rfl ?_
    refine mh_if_eq dL_law_1369 (tgt := 1565) (q := 1372) rfl rfl (fun _ => ?_) (fun hh => absurd (lg_cmp_rfl _) hh)
    exact kk _ _ (by omega) (by omega) _ _ _ _ _ hI
set_option maxHeartbeats 4000000 in
set_option maxRecDepth 100000 in
theorem law_c26 {l : Launch} {K : mhX} {kc ks t : Nat} {Φ : mhQ} {S : List mhS} {F : mhF} {I : mhI} {J : mhJ} {P : mhP} (hI : mhIv S F I P) (h9 : t + 9 ≤ K.2.2.2.2.1) (h46 : K.2.2.2.2.1 ≤ 4608) (hkc : 11 ≤ kc) (hks : 359 ≤ ks) (kk : ∀ (kc2 ks2 : Nat), kc ≤ kc2 + 11 → ks ≤ ks2 + 359 → ∀ (S : List mhS) (F : mhF) (I : mhI) (J : mhJ) (P : mhP), mhIv S F I P → mhV l K mL_law kc2 ks2 Φ 1565 [some (.retAddr 0), some (.ref 0), some (.ref 21), some (.int (nI t))] [] S F I J P) : mhV l K mL_law kc ks Φ 1374 [some (.retAddr 0), some (.ref 0), some (.ref 21), some (.int (nI t))] [] S F I J P := by
  have bc : mX6_copy.2.2.2.2.cells + mX7_copy.2.2.2.2.cells ≤ 11 := by decide
  have bs : mX6_copy.2.2.2.2.slots + mX7_copy.2.2.2.2.slots ≤ 359 := by decide
  refine mh_aload_1 dL_law_1374 (q := 1375) rfl ?_
  refine mh_aloadT_0 dL_law_1375 (q := 1376) rfl ?_
  refine mh_iload_3 dL_law_1376 (q := 1377) rfl ?_
  refine mh_iconst_1 dL_law_1377 (q := 1378) rfl ?_
  refine mh_iadd dL_law_1378 (q := 1379) rfl ?_
  refine mh_sld dL_law_1379 (q := 1380) rfl rfl (sIn (k := 1) h9 h46 (by decide)) ?_
  refine mh_aloadT_0 dL_law_1380 (q := 1381) rfl ?_
  refine mh_iload_3 dL_law_1381 (q := 1382) rfl ?_
  refine mh_iconst_2 dL_law_1382 (q := 1383) rfl ?_
  refine mh_iadd dL_law_1383 (q := 1384) rfl ?_
  refine mh_sld dL_law_1384 (q := 1385) rfl rfl (sIn (k := 2) h9 h46 (by decide)) ?_
  refine mh_aloadT_0 dL_law_1385 (q := 1386) rfl ?_
  refine mh_iload_3 dL_law_1386 (q := 1387) rfl ?_
  refine mh_iconst_3 dL_law_1387 (q := 1388) rfl ?_
  refine mh_iadd dL_law_1388 (q := 1389) rfl ?_
  refine mh_sld dL_law_1389 (q := 1390) rfl rfl (sIn (k := 3) h9 h46 (by decide)) ?_
  refine mh_aloadT_0 dL_law_1390 (q := 1391) rfl ?_
  refine mh_iload_3 dL_law_1391 (q := 1392) rfl ?_
  refine mh_iconst_4 dL_law_1392 (q := 1393) rfl ?_
  refine mh_iadd dL_law_1393 (q := 1394) rfl ?_
  refine mh_sld dL_law_1394 (q := 1395) rfl rfl (sIn (k := 4) h9 h46 (by decide)) ?_
  refine mh_aloadT_0 dL_law_1395 (q := 1396) rfl ?_
  refine mh_iload_3 dL_law_1396 (q := 1397) rfl ?_
  refine mh_iconst_5 dL_law_1397 (q := 1398) rfl ?_
  refine mh_iadd dL_law_1398 (q := 1399) rfl ?_
  refine mh_sld dL_law_1399 (q := 1400) rfl rfl (sIn (k := 5) h9 h46 (by decide)) ?_
  refine mh_callV5 ca_L_law_1400 (shX6_0 hI.s6) (q := 1403) rfl (by simp [Value.category]) ⟨by omega, by omega⟩ ?_
  refine pr_copy (Ψ := fun x v S F I J P => mhV l K mL_law (kc - mX6_copy.2.2.2.2.cells - mX7_copy.2.2.2.2.cells) (ks - mX6_copy.2.2.2.2.slots - mX7_copy.2.2.2.2.slots) Φ 1432 [some (.retAddr 0), some (.ref 0), some (.ref 21), some (.int (nI t))] (v.toList ++ [.int x]) S F I J P) hI (fun x S F I J P h7 hk2 => ?_) (fun x S F I J P hI => ?_)
  · skip
    refine mh_aload_2 dL_law_1403 (q := 1404) rfl ?_
    refine mh_aloadT_0 dL_law_1404 (q := 1405) rfl ?_
    refine mh_iload_3 dL_law_1405 (q := 1406) rfl ?_
    refine mh_iconst_1 dL_law_1406 (q := 1407) rfl ?_
    refine mh_iadd dL_law_1407 (q := 1408) rfl ?_
    refine mh_sld dL_law_1408 (q := 1409) rfl rfl (sIn (k := 1) h9 h46 (by decide)) ?_
    refine mh_aloadT_0 dL_law_1409 (q := 1410) rfl ?_
    refine mh_iload_3 dL_law_1410 (q := 1411) rfl ?_
    refine mh_iconst_2 dL_law_1411 (q := 1412) rfl ?_
    refine mh_iadd dL_law_1412 (q := 1413) rfl ?_
    refine mh_sld dL_law_1413 (q := 1414) rfl rfl (sIn (k := 2) h9 h46 (by decide)) ?_
    refine mh_aloadT_0 dL_law_1414 (q := 1415) rfl ?_
    refine mh_iload_3 dL_law_1415 (q := 1416) rfl ?_
    refine mh_iconst_3 dL_law_1416 (q := 1417) rfl ?_
    refine mh_iadd dL_law_1417 (q := 1418) rfl ?_
    refine mh_sld dL_law_1418 (q := 1419) rfl rfl (sIn (k := 3) h9 h46 (by decide)) ?_
    refine mh_aloadT_0 dL_law_1419 (q := 1420) rfl ?_
    refine mh_iload_3 dL_law_1420 (q := 1421) rfl ?_
    refine mh_iconst_4 dL_law_1421 (q := 1422) rfl ?_
    refine mh_iadd dL_law_1422 (q := 1423) rfl ?_
    refine mh_sld dL_law_1423 (q := 1424) rfl rfl (sIn (k := 4) h9 h46 (by decide)) ?_
    refine mh_aloadT_0 dL_law_1424 (q := 1425) rfl ?_
    refine mh_iload_3 dL_law_1425 (q := 1426) rfl ?_
    refine mh_iconst_5 dL_law_1426 (q := 1427) rfl ?_
    refine mh_iadd dL_law_1427 (q := 1428) rfl ?_
    refine mh_sld dL_law_1428 (q := 1429) rfl rfl (sIn (k := 5) h9 h46 (by decide)) ?_
    refine mh_callV5 ca_L_law_1429 (shX7_0 h7) (q := 1432) rfl (by simp [Value.category]) ⟨by omega, by omega⟩ ?_
    exact hk2
  · skip
    refine mh_icmp_eq dL_law_1432 (tgt := 1565) (q := 1435) rfl rfl (fun _ => ?_) (fun hh => absurd rfl hh)
    exact kk _ _ (by omega) (by omega) _ _ _ _ _ hI
set_option maxHeartbeats 4000000 in
set_option maxRecDepth 100000 in
theorem law_c27 {l : Launch} {K : mhX} {kc ks t : Nat} {Φ : mhQ} {S : List mhS} {F : mhF} {I : mhI} {J : mhJ} {P : mhP} (hI : mhIv S F I P) (h9 : t + 9 ≤ K.2.2.2.2.1) (h46 : K.2.2.2.2.1 ≤ 4608) (hkc : 11 ≤ kc) (hks : 359 ≤ ks) (kk : ∀ (kc2 ks2 : Nat), kc ≤ kc2 + 11 → ks ≤ ks2 + 359 → ∀ (S : List mhS) (F : mhF) (I : mhI) (J : mhJ) (P : mhP), mhIv S F I P → mhV l K mL_law kc2 ks2 Φ 1565 [some (.retAddr 0), some (.ref 0), some (.ref 21), some (.int (nI t))] [] S F I J P) : mhV l K mL_law kc ks Φ 1437 [some (.retAddr 0), some (.ref 0), some (.ref 21), some (.int (nI t))] [] S F I J P := by
  have bc : mX6_tell.2.2.2.2.cells + mX7_tell.2.2.2.2.cells ≤ 11 := by decide
  have bs : mX6_tell.2.2.2.2.slots + mX7_tell.2.2.2.2.slots ≤ 359 := by decide
  refine mh_aload_1 dL_law_1437 (q := 1438) rfl ?_
  refine mh_aloadT_0 dL_law_1438 (q := 1439) rfl ?_
  refine mh_iload_3 dL_law_1439 (q := 1440) rfl ?_
  refine mh_iconst_1 dL_law_1440 (q := 1441) rfl ?_
  refine mh_iadd dL_law_1441 (q := 1442) rfl ?_
  refine mh_sld dL_law_1442 (q := 1443) rfl rfl (sIn (k := 1) h9 h46 (by decide)) ?_
  refine mh_callV1 ca_L_law_1443 (shX6_0 hI.s6) (q := 1446) rfl (by simp [Value.category]) ⟨by omega, by omega⟩ ?_
  refine pr_tell (Ψ := fun x v S F I J P => mhV l K mL_law (kc - mX6_tell.2.2.2.2.cells - mX7_tell.2.2.2.2.cells) (ks - mX6_tell.2.2.2.2.slots - mX7_tell.2.2.2.2.slots) Φ 1455 [some (.retAddr 0), some (.ref 0), some (.ref 21), some (.int (nI t))] (v.toList ++ [.int x]) S F I J P) hI (fun x S F I J P h7 hk2 => ?_) (fun x S F I J P hI => ?_)
  · skip
    refine mh_aload_2 dL_law_1446 (q := 1447) rfl ?_
    refine mh_aloadT_0 dL_law_1447 (q := 1448) rfl ?_
    refine mh_iload_3 dL_law_1448 (q := 1449) rfl ?_
    refine mh_iconst_1 dL_law_1449 (q := 1450) rfl ?_
    refine mh_iadd dL_law_1450 (q := 1451) rfl ?_
    refine mh_sld dL_law_1451 (q := 1452) rfl rfl (sIn (k := 1) h9 h46 (by decide)) ?_
    refine mh_callV1 ca_L_law_1452 (shX7_0 h7) (q := 1455) rfl (by simp [Value.category]) ⟨by omega, by omega⟩ ?_
    exact hk2
  · skip
    refine mh_icmp_eq dL_law_1455 (tgt := 1565) (q := 1458) rfl rfl (fun _ => ?_) (fun hh => absurd rfl hh)
    exact kk _ _ (by omega) (by omega) _ _ _ _ _ hI
set_option maxHeartbeats 4000000 in
set_option maxRecDepth 100000 in
theorem law_c28 {l : Launch} {K : mhX} {kc ks t : Nat} {Φ : mhQ} {S : List mhS} {F : mhF} {I : mhI} {J : mhJ} {P : mhP} (hI : mhIv S F I P) (h9 : t + 9 ≤ K.2.2.2.2.1) (h46 : K.2.2.2.2.1 ≤ 4608) (hkc : 11 ≤ kc) (hks : 359 ≤ ks) (kk : ∀ (kc2 ks2 : Nat), kc ≤ kc2 + 11 → ks ≤ ks2 + 359 → ∀ (S : List mhS) (F : mhF) (I : mhI) (J : mhJ) (P : mhP), mhIv S F I P → mhV l K mL_law kc2 ks2 Φ 1565 [some (.retAddr 0), some (.ref 0), some (.ref 21), some (.int (nI t))] [] S F I J P) : mhV l K mL_law kc ks Φ 1460 [some (.retAddr 0), some (.ref 0), some (.ref 21), some (.int (nI t))] [] S F I J P := by
  have bc : mX6_greet.2.2.2.2.cells + mX7_greet.2.2.2.2.cells ≤ 11 := by decide
  have bs : mX6_greet.2.2.2.2.slots + mX7_greet.2.2.2.2.slots ≤ 359 := by decide
  refine mh_aload_1 dL_law_1460 (q := 1461) rfl ?_
  refine mh_aloadT_0 dL_law_1461 (q := 1462) rfl ?_
  refine mh_iload_3 dL_law_1462 (q := 1463) rfl ?_
  refine mh_iconst_1 dL_law_1463 (q := 1464) rfl ?_
  refine mh_iadd dL_law_1464 (q := 1465) rfl ?_
  refine mh_sld dL_law_1465 (q := 1466) rfl rfl (sIn (k := 1) h9 h46 (by decide)) ?_
  refine mh_callV1 ca_L_law_1466 (shX6_0 hI.s6) (q := 1469) rfl (by simp [Value.category]) ⟨by omega, by omega⟩ ?_
  refine pr_greet (Ψ := fun x v S F I J P => mhV l K mL_law (kc - mX6_greet.2.2.2.2.cells - mX7_greet.2.2.2.2.cells) (ks - mX6_greet.2.2.2.2.slots - mX7_greet.2.2.2.2.slots) Φ 1478 [some (.retAddr 0), some (.ref 0), some (.ref 21), some (.int (nI t))] (v.toList ++ [.int x]) S F I J P) hI (fun x S F I J P h7 hk2 => ?_) (fun x S F I J P hI => ?_)
  · skip
    refine mh_aload_2 dL_law_1469 (q := 1470) rfl ?_
    refine mh_aloadT_0 dL_law_1470 (q := 1471) rfl ?_
    refine mh_iload_3 dL_law_1471 (q := 1472) rfl ?_
    refine mh_iconst_1 dL_law_1472 (q := 1473) rfl ?_
    refine mh_iadd dL_law_1473 (q := 1474) rfl ?_
    refine mh_sld dL_law_1474 (q := 1475) rfl rfl (sIn (k := 1) h9 h46 (by decide)) ?_
    refine mh_callV1 ca_L_law_1475 (shX7_0 h7) (q := 1478) rfl (by simp [Value.category]) ⟨by omega, by omega⟩ ?_
    exact hk2
  · skip
    refine mh_icmp_eq dL_law_1478 (tgt := 1565) (q := 1481) rfl rfl (fun _ => ?_) (fun hh => absurd rfl hh)
    exact kk _ _ (by omega) (by omega) _ _ _ _ _ hI
set_option maxHeartbeats 4000000 in
set_option maxRecDepth 100000 in
theorem law_c29 {l : Launch} {K : mhX} {kc ks t : Nat} {Φ : mhQ} {S : List mhS} {F : mhF} {I : mhI} {J : mhJ} {P : mhP} (hI : mhIv S F I P) (h9 : t + 9 ≤ K.2.2.2.2.1) (h46 : K.2.2.2.2.1 ≤ 4608) (hkc : 11 ≤ kc) (hks : 359 ≤ ks) (kk : ∀ (kc2 ks2 : Nat), kc ≤ kc2 + 11 → ks ≤ ks2 + 359 → ∀ (S : List mhS) (F : mhF) (I : mhI) (J : mhJ) (P : mhP), mhIv S F I P → mhV l K mL_law kc2 ks2 Φ 1565 [some (.retAddr 0), some (.ref 0), some (.ref 21), some (.int (nI t))] [] S F I J P) : mhV l K mL_law kc ks Φ 1483 [some (.retAddr 0), some (.ref 0), some (.ref 21), some (.int (nI t))] [] S F I J P := by
  have bc : mX6_as.2.2.2.2.cells + mX7_as.2.2.2.2.cells ≤ 11 := by decide
  have bs : mX6_as.2.2.2.2.slots + mX7_as.2.2.2.2.slots ≤ 359 := by decide
  refine mh_aload_1 dL_law_1483 (q := 1484) rfl ?_
  refine mh_aloadT_0 dL_law_1484 (q := 1485) rfl ?_
  refine mh_iload_3 dL_law_1485 (q := 1486) rfl ?_
  refine mh_iconst_1 dL_law_1486 (q := 1487) rfl ?_
  refine mh_iadd dL_law_1487 (q := 1488) rfl ?_
  refine mh_sld dL_law_1488 (q := 1489) rfl rfl (sIn (k := 1) h9 h46 (by decide)) ?_
  refine mh_aloadT_0 dL_law_1489 (q := 1490) rfl ?_
  refine mh_iload_3 dL_law_1490 (q := 1491) rfl ?_
  refine mh_iconst_2 dL_law_1491 (q := 1492) rfl ?_
  refine mh_iadd dL_law_1492 (q := 1493) rfl ?_
  refine mh_sld dL_law_1493 (q := 1494) rfl rfl (sIn (k := 2) h9 h46 (by decide)) ?_
  refine mh_callV2 ca_L_law_1494 (shX6_0 hI.s6) (q := 1497) rfl (by simp [Value.category]) ⟨by omega, by omega⟩ ?_
  refine pr_as (Ψ := fun x v S F I J P => mhV l K mL_law (kc - mX6_as.2.2.2.2.cells - mX7_as.2.2.2.2.cells) (ks - mX6_as.2.2.2.2.slots - mX7_as.2.2.2.2.slots) Φ 1511 [some (.retAddr 0), some (.ref 0), some (.ref 21), some (.int (nI t))] (v.toList ++ [.int x]) S F I J P) hI (fun x S F I J P h7 hk2 => ?_) (fun x S F I J P hI => ?_)
  · skip
    refine mh_aload_2 dL_law_1497 (q := 1498) rfl ?_
    refine mh_aloadT_0 dL_law_1498 (q := 1499) rfl ?_
    refine mh_iload_3 dL_law_1499 (q := 1500) rfl ?_
    refine mh_iconst_1 dL_law_1500 (q := 1501) rfl ?_
    refine mh_iadd dL_law_1501 (q := 1502) rfl ?_
    refine mh_sld dL_law_1502 (q := 1503) rfl rfl (sIn (k := 1) h9 h46 (by decide)) ?_
    refine mh_aloadT_0 dL_law_1503 (q := 1504) rfl ?_
    refine mh_iload_3 dL_law_1504 (q := 1505) rfl ?_
    refine mh_iconst_2 dL_law_1505 (q := 1506) rfl ?_
    refine mh_iadd dL_law_1506 (q := 1507) rfl ?_
    refine mh_sld dL_law_1507 (q := 1508) rfl rfl (sIn (k := 2) h9 h46 (by decide)) ?_
    refine mh_callV2 ca_L_law_1508 (shX7_0 h7) (q := 1511) rfl (by simp [Value.category]) ⟨by omega, by omega⟩ ?_
    exact hk2
  · skip
    refine mh_icmp_eq dL_law_1511 (tgt := 1565) (q := 1514) rfl rfl (fun _ => ?_) (fun hh => absurd rfl hh)
    exact kk _ _ (by omega) (by omega) _ _ _ _ _ hI
set_option maxHeartbeats 4000000 in
set_option maxRecDepth 100000 in
theorem law_c30 {l : Launch} {K : mhX} {kc ks t : Nat} {Φ : mhQ} {S : List mhS} {F : mhF} {I : mhI} {J : mhJ} {P : mhP} (hI : mhIv S F I P) (h9 : t + 9 ≤ K.2.2.2.2.1) (h46 : K.2.2.2.2.1 ≤ 4608) (hkc : 11 ≤ kc) (hks : 359 ≤ ks) (kk : ∀ (kc2 ks2 : Nat), kc ≤ kc2 + 11 → ks ≤ ks2 + 359 → ∀ (S : List mhS) (F : mhF) (I : mhI) (J : mhJ) (P : mhP), mhIv S F I P → mhV l K mL_law kc2 ks2 Φ 1565 [some (.retAddr 0), some (.ref 0), some (.ref 21), some (.int (nI t))] [] S F I J P) : mhV l K mL_law kc ks Φ 1516 [some (.retAddr 0), some (.ref 0), some (.ref 21), some (.int (nI t))] [] S F I J P := by
  have bc : mX6_trace.2.2.2.2.cells + mX7_trace.2.2.2.2.cells ≤ 11 := by decide
  have bs : mX6_trace.2.2.2.2.slots + mX7_trace.2.2.2.2.slots ≤ 359 := by decide
  refine mh_aload_1 dL_law_1516 (q := 1517) rfl ?_
  refine mh_callV0 ca_L_law_1517 (shX6_0 hI.s6) (q := 1520) rfl (by simp [Value.category]) ⟨by omega, by omega⟩ ?_
  refine pr_trace (Ψ := fun x v S F I J P => mhV l K mL_law (kc - mX6_trace.2.2.2.2.cells - mX7_trace.2.2.2.2.cells) (ks - mX6_trace.2.2.2.2.slots - mX7_trace.2.2.2.2.slots) Φ 1524 [some (.retAddr 0), some (.ref 0), some (.ref 21), some (.int (nI t))] (v.toList ++ [.int x]) S F I J P) hI (fun x S F I J P h7 hk2 => ?_) (fun x S F I J P hI => ?_)
  · skip
    refine mh_aload_2 dL_law_1520 (q := 1521) rfl ?_
    refine mh_callV0 ca_L_law_1521 (shX7_0 h7) (q := 1524) rfl (by simp [Value.category]) ⟨by omega, by omega⟩ ?_
    exact hk2
  · skip
    refine mh_icmp_eq dL_law_1524 (tgt := 1565) (q := 1527) rfl rfl (fun _ => ?_) (fun hh => absurd rfl hh)
    exact kk _ _ (by omega) (by omega) _ _ _ _ _ hI
set_option maxHeartbeats 4000000 in
set_option maxRecDepth 100000 in
theorem law_c31 {l : Launch} {K : mhX} {kc ks t : Nat} {Φ : mhQ} {S : List mhS} {F : mhF} {I : mhI} {J : mhJ} {P : mhP} (hI : mhIv S F I P) (h9 : t + 9 ≤ K.2.2.2.2.1) (h46 : K.2.2.2.2.1 ≤ 4608) (hkc : 11 ≤ kc) (hks : 359 ≤ ks) (kk : ∀ (kc2 ks2 : Nat), kc ≤ kc2 + 11 → ks ≤ ks2 + 359 → ∀ (S : List mhS) (F : mhF) (I : mhI) (J : mhJ) (P : mhP), mhIv S F I P → mhV l K mL_law kc2 ks2 Φ 1565 [some (.retAddr 0), some (.ref 0), some (.ref 21), some (.int (nI t))] [] S F I J P) : mhV l K mL_law kc ks Φ 1529 [some (.retAddr 0), some (.ref 0), some (.ref 21), some (.int (nI t))] [] S F I J P := by
  have bc : mX6_fault.2.2.2.2.cells + mX7_fault.2.2.2.2.cells ≤ 11 := by decide
  have bs : mX6_fault.2.2.2.2.slots + mX7_fault.2.2.2.2.slots ≤ 359 := by decide
  refine mh_aload_1 dL_law_1529 (q := 1530) rfl ?_
  refine mh_callV0 ca_L_law_1530 (shX6_0 hI.s6) (q := 1533) rfl (by simp [Value.category]) ⟨by omega, by omega⟩ ?_
  refine pr_fault (Ψ := fun x v S F I J P => mhV l K mL_law (kc - mX6_fault.2.2.2.2.cells - mX7_fault.2.2.2.2.cells) (ks - mX6_fault.2.2.2.2.slots - mX7_fault.2.2.2.2.slots) Φ 1537 [some (.retAddr 0), some (.ref 0), some (.ref 21), some (.int (nI t))] (v.toList ++ [.int x]) S F I J P) hI (fun x S F I J P h7 hk2 => ?_) (fun x S F I J P hI => ?_)
  · skip
    refine mh_aload_2 dL_law_1533 (q := 1534) rfl ?_
    refine mh_callV0 ca_L_law_1534 (shX7_0 h7) (q := 1537) rfl (by simp [Value.category]) ⟨by omega, by omega⟩ ?_
    exact hk2
  · skip
    refine mh_icmp_eq dL_law_1537 (tgt := 1565) (q := 1540) rfl rfl (fun _ => ?_) (fun hh => absurd rfl hh)
    exact kk _ _ (by omega) (by omega) _ _ _ _ _ hI
set_option maxHeartbeats 4000000 in
set_option maxRecDepth 100000 in
theorem law_c32 {l : Launch} {K : mhX} {kc ks t : Nat} {Φ : mhQ} {S : List mhS} {F : mhF} {I : mhI} {J : mhJ} {P : mhP} (hI : mhIv S F I P) (h9 : t + 9 ≤ K.2.2.2.2.1) (h46 : K.2.2.2.2.1 ≤ 4608) (hkc : 11 ≤ kc) (hks : 359 ≤ ks) (kk : ∀ (kc2 ks2 : Nat), kc ≤ kc2 + 11 → ks ≤ ks2 + 359 → ∀ (S : List mhS) (F : mhF) (I : mhI) (J : mhJ) (P : mhP), mhIv S F I P → mhV l K mL_law kc2 ks2 Φ 1565 [some (.retAddr 0), some (.ref 0), some (.ref 21), some (.int (nI t))] [] S F I J P) : mhV l K mL_law kc ks Φ 1542 [some (.retAddr 0), some (.ref 0), some (.ref 21), some (.int (nI t))] [] S F I J P := by
  have bc : mX6_many.2.2.2.2.cells + mX7_many.2.2.2.2.cells ≤ 11 := by decide
  have bs : mX6_many.2.2.2.2.slots + mX7_many.2.2.2.2.slots ≤ 359 := by decide
  refine mh_aload_1 dL_law_1542 (q := 1543) rfl ?_
  refine mh_aloadT_0 dL_law_1543 (q := 1544) rfl ?_
  refine mh_iload_3 dL_law_1544 (q := 1545) rfl ?_
  refine mh_iconst_1 dL_law_1545 (q := 1546) rfl ?_
  refine mh_iadd dL_law_1546 (q := 1547) rfl ?_
  refine mh_sld dL_law_1547 (q := 1548) rfl rfl (sIn (k := 1) h9 h46 (by decide)) ?_
  refine mh_callV1 ca_L_law_1548 (shX6_0 hI.s6) (q := 1551) rfl (by simp [Value.category]) ⟨by omega, by omega⟩ ?_
  refine pr_many (Ψ := fun x v S F I J P => mhV l K mL_law (kc - mX6_many.2.2.2.2.cells - mX7_many.2.2.2.2.cells) (ks - mX6_many.2.2.2.2.slots - mX7_many.2.2.2.2.slots) Φ 1560 [some (.retAddr 0), some (.ref 0), some (.ref 21), some (.int (nI t))] (v.toList ++ [.int x]) S F I J P) hI (fun x S F I J P h7 hk2 => ?_) (fun x S F I J P hI => ?_)
  · skip
    refine mh_aload_2 dL_law_1551 (q := 1552) rfl ?_
    refine mh_aloadT_0 dL_law_1552 (q := 1553) rfl ?_
    refine mh_iload_3 dL_law_1553 (q := 1554) rfl ?_
    refine mh_iconst_1 dL_law_1554 (q := 1555) rfl ?_
    refine mh_iadd dL_law_1555 (q := 1556) rfl ?_
    refine mh_sld dL_law_1556 (q := 1557) rfl rfl (sIn (k := 1) h9 h46 (by decide)) ?_
    refine mh_callV1 ca_L_law_1557 (shX7_0 h7) (q := 1560) rfl (by simp [Value.category]) ⟨by omega, by omega⟩ ?_
    exact hk2
  · skip
    refine mh_icmp_eq dL_law_1560 (tgt := 1565) (q := 1563) rfl rfl (fun _ => ?_) (fun hh => absurd rfl hh)
    exact kk _ _ (by omega) (by omega) _ _ _ _ _ hI
