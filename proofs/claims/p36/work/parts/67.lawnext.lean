/-! the law: what is ahead of a crossing -/
theorem lnUb_t {w r d : Nat} {au av bu bv : Int} (h : 0 ≤ lnS bu bv d) : lnUb (lnD w r au av) (lnR r bu bv) d (lnIs w r d - lnS au av d) (lnS bu bv d) := by
  unfold lnUb lnD lnR
  rcases lnE_1 r d with e | e <;> rw [e] <;> omega
theorem lnUb_f {w r d : Nat} {au av bu bv : Int} (h : ¬ 0 ≤ lnS bu bv d) : lnUb (lnD w r au av) (lnR r bu bv) d (-(lnIs w r d - lnS au av d)) (-(lnS bu bv d)) := by
  unfold lnUb lnD lnR
  rcases lnE_1 r d with e | e <;> rw [e] <;> omega
theorem lnBd.s {w r d : Nat} {au av bu bv tu td : Int} (h : lnBd (lnD w r au av) (lnR r bu bv) tu td) (hd : d < 3) : -120 ≤ lnS bu bv d ∧ lnS bu bv d ≤ 120 := by
  have := (h.1 d hd).2
  unfold lnR at this
  rcases lnE_1 r d with e | e <;> (rw [e] at this; omega)
set_option maxHeartbeats 4000000 in
set_option maxRecDepth 100000 in
theorem nx_L_go_0 {l : Launch} {K : mhX} {kc ks : Nat} {Φ : mhQ} {S : List mhS} {F : mhF} {I : mhI} {J : mhJ} {P : mhP} {b oo w r : Nat} {x1 x2 x3 n : Int32} {au av bu bv tu td : Int} (hbd : lnBd (lnD w r au av) (lnR r bu bv) tu td) (hat : lnAt (lnD w r au av) (lnR r bu bv) tu td) (hU : S[oo]? = some (.inl (0, 5))) (o33 o34 o35 o36 o37 o38 : Option Value) (kk : ∀ (o33 o34 o35 o36 o37 o38 : Option Value), mhV l K mL_go kc ks Φ 146 [some (.ref b), some (.int x1), some (.int x2), some (.int x3), some (.int n), some (.ref oo), some (.long (lJ au)), none, some (.long (lJ av)), none, some (.long (lJ bu)), none, some (.long (lJ bv)), none, some (.long (lJ tu)), none, some (.long (lJ td)), none, some (.int (nI r)), some (.long (lJ (3 * ((r / 2 % w : Nat) : Int)))), none, some (.long (lJ (3 * ((r / 2 / w : Nat) : Int)))), none, some (.int (nI (r % 2))), some (.int (lvW (lnF (lnD w r au av) (lnR r bu bv) 1))), some (.int (bI (lnF (lnD w r au av) (lnR r bu bv) 1).2)), some (.long (lJ (lvN (lnD w r au av) (lnF (lnD w r au av) (lnR r bu bv) 1)))), none, some (.long (lJ (lvD (lnR r bu bv) (lnF (lnD w r au av) (lnR r bu bv) 1)))), none, some (.long (lJ (lvL w r (lnF (lnD w r au av) (lnR r bu bv) 1)))), none, some (.int (nI 1)), o33, o34, o35, o36, o37, o38] [] S F I J P) : mhV l K mL_go kc ks Φ 146 [some (.ref b), some (.int x1), some (.int x2), some (.int x3), some (.int n), some (.ref oo), some (.long (lJ au)), none, some (.long (lJ av)), none, some (.long (lJ bu)), none, some (.long (lJ bv)), none, some (.long (lJ tu)), none, some (.long (lJ td)), none, some (.int (nI r)), some (.long (lJ (3 * ((r / 2 % w : Nat) : Int)))), none, some (.long (lJ (3 * ((r / 2 / w : Nat) : Int)))), none, some (.int (nI (r % 2))), some (.int (lvW (lnF (lnD w r au av) (lnR r bu bv) 0))), some (.int (bI (lnF (lnD w r au av) (lnR r bu bv) 0).2)), some (.long (lJ (lvN (lnD w r au av) (lnF (lnD w r au av) (lnR r bu bv) 0)))), none, some (.long (lJ (lvD (lnR r bu bv) (lnF (lnD w r au av) (lnR r bu bv) 0)))), none, some (.long (lJ (lvL w r (lnF (lnD w r au av) (lnR r bu bv) 0)))), none, some (.int (nI 0)), o33, o34, o35, o36, o37, o38] [] S F I J P := by
  have hb : -120 ≤ bv ∧ bv ≤ 120 := hbd.s (d := 0) (by omega)
  have next : ∀ (o33 o34 o35 o36 o37 o38 : Option Value), mhV l K mL_go kc ks Φ 374 [some (.ref b), some (.int x1), some (.int x2), some (.int x3), some (.int n), some (.ref oo), some (.long (lJ au)), none, some (.long (lJ av)), none, some (.long (lJ bu)), none, some (.long (lJ bv)), none, some (.long (lJ tu)), none, some (.long (lJ td)), none, some (.int (nI r)), some (.long (lJ (3 * ((r / 2 % w : Nat) : Int)))), none, some (.long (lJ (3 * ((r / 2 / w : Nat) : Int)))), none, some (.int (nI (r % 2))), some (.int (lvW (lnF (lnD w r au av) (lnR r bu bv) (0 + 1)))), some (.int (bI (lnF (lnD w r au av) (lnR r bu bv) (0 + 1)).2)), some (.long (lJ (lvN (lnD w r au av) (lnF (lnD w r au av) (lnR r bu bv) (0 + 1))))), none, some (.long (lJ (lvD (lnR r bu bv) (lnF (lnD w r au av) (lnR r bu bv) (0 + 1))))), none, some (.long (lJ (lvL w r (lnF (lnD w r au av) (lnR r bu bv) (0 + 1))))), none, some (.int (nI 0)), o33, o34, o35, o36, o37, o38] [] S F I J P := by
    intro o33 o34 o35 o36 o37 o38
    refine mh_iinc_32 (v := 1) dL_go_374 (q := 377) rfl (by decide) ?_
    refine mh_goto dL_go_377 (tgt := 146) rfl ?_
    exact kk _ _ _ _ _ _
  refine mh_iload_32 dL_go_146 (q := 148) rfl ?_
  refine mh_iconst_3 dL_go_148 (q := 149) rfl ?_
  refine mh_icmp_ge dL_go_149 (tgt := 380) (q := 152) rfl rfl (fun hh => False.elim (by revert hh; decide)) (fun _ => ?_)
  refine mh_iload_32 dL_go_152 (q := 154) rfl ?_
  refine mh_if_ne dL_go_154 (tgt := 168) (q := 157) rfl rfl (fun hh => False.elim (by revert hh; decide)) (fun _ => ?_)
  refine mh_lload_21 dL_go_157 (q := 159) rfl ?_
  refine mh_iconst_3 dL_go_159 (q := 160) rfl ?_
  refine mh_iload_23 dL_go_160 (q := 162) rfl ?_
  refine mh_imul dL_go_162 (q := 163) rfl ?_
  refine mh_i2lN (show (3 : Int32) * nI (r % 2) = nI (3 * (r % 2)) from by rw [show (3 : Int32) = nI 3 from rfl, pk_mul]) (by omega) dL_go_163 (q := 164) rfl ?_
  refine mh_laddJ dL_go_164 (q := 165) rfl ?_
  refine mh_goto dL_go_165 (tgt := 194) rfl ?_
  refine mh_lstore_33 dL_go_194 (q := 196) rfl ?_
  rw [show 3 * ((r / 2 / w : Nat) : Int) + ((3 * (r % 2) : Nat) : Int) = lnIs w r 0 from by unfold lnIs; simp (decide := true) only [if_true, if_false] <;> omega]
  refine mh_iload_32 dL_go_196 (q := 198) rfl ?_
  refine mh_if_ne dL_go_198 (tgt := 206) (q := 201) rfl rfl (fun hh => False.elim (by revert hh; decide)) (fun _ => ?_)
  refine mh_lload_12 dL_go_201 (q := 203) rfl ?_
  refine mh_goto dL_go_203 (tgt := 222) rfl ?_
  refine mh_lstore_35 dL_go_222 (q := 224) rfl ?_
  refine mh_lload_33 dL_go_224 (q := 226) rfl ?_
  refine mh_iload_32 dL_go_226 (q := 228) rfl ?_
  refine mh_if_ne dL_go_228 (tgt := 236) (q := 231) rfl rfl (fun hh => False.elim (by revert hh; decide)) (fun _ => ?_)
  refine mh_lload_8 dL_go_231 (q := 233) rfl ?_
  refine mh_goto dL_go_233 (tgt := 252) rfl ?_
  refine mh_lsubJ dL_go_252 (q := 253) rfl ?_
  refine mh_lstore_37 dL_go_253 (q := 255) rfl ?_
  refine mh_lload_35 dL_go_255 (q := 257) rfl ?_
  refine mh_lconstJ_0 dL_go_257 (q := 258) rfl ?_
  refine mh_lc_ge dL_go_258 (q1 := 259) rfl dL_go_259 (tgt := 268) (q := 262) rfl rfl ⟨by omega, by omega⟩ ⟨by omega, by omega⟩ (fun cs => ?_) (fun cs => ?_)
  · skip
    refine mh_lload_37 dL_go_268 (q := 270) rfl ?_
    refine mh_lstore_37 dL_go_270 (q := 272) rfl ?_
    refine mh_lload_35 dL_go_272 (q := 274) rfl ?_
    refine mh_lconstJ_0 dL_go_274 (q := 275) rfl ?_
    refine mh_lc_ge dL_go_275 (q1 := 276) rfl dL_go_276 (tgt := 285) (q := 279) rfl rfl ⟨by omega, by omega⟩ ⟨by omega, by omega⟩ (fun _ => ?_) (fun hh => absurd cs hh)
    refine mh_lload_35 dL_go_285 (q := 287) rfl ?_
    refine mh_lstore_35 dL_go_287 (q := 289) rfl ?_
    exact tl_L_go hbd hat hU (by omega) (show lnUb (lnD w r au av) (lnR r bu bv) 0 (lnIs w r 0 - av) bv from lnUb_t (d := 0) cs) next
  · skip
    refine mh_lload_37 dL_go_262 (q := 264) rfl ?_
    refine mh_lnegJ dL_go_264 (q := 265) rfl ?_
    refine mh_goto dL_go_265 (tgt := 270) rfl ?_
    refine mh_lstore_37 dL_go_270 (q := 272) rfl ?_
    refine mh_lload_35 dL_go_272 (q := 274) rfl ?_
    refine mh_lconstJ_0 dL_go_274 (q := 275) rfl ?_
    refine mh_lc_ge dL_go_275 (q1 := 276) rfl dL_go_276 (tgt := 285) (q := 279) rfl rfl ⟨by omega, by omega⟩ ⟨by omega, by omega⟩ (fun hh => absurd hh cs) (fun _ => ?_)
    refine mh_lload_35 dL_go_279 (q := 281) rfl ?_
    refine mh_lnegJ dL_go_281 (q := 282) rfl ?_
    refine mh_goto dL_go_282 (tgt := 287) rfl ?_
    refine mh_lstore_35 dL_go_287 (q := 289) rfl ?_
    exact tl_L_go hbd hat hU (by omega) (show lnUb (lnD w r au av) (lnR r bu bv) 0 (-(lnIs w r 0 - av)) (-bv) from lnUb_f (d := 0) cs) next
set_option maxHeartbeats 4000000 in
set_option maxRecDepth 100000 in
theorem nx_L_go_1 {l : Launch} {K : mhX} {kc ks : Nat} {Φ : mhQ} {S : List mhS} {F : mhF} {I : mhI} {J : mhJ} {P : mhP} {b oo w r : Nat} {x1 x2 x3 n : Int32} {au av bu bv tu td : Int} (hbd : lnBd (lnD w r au av) (lnR r bu bv) tu td) (hat : lnAt (lnD w r au av) (lnR r bu bv) tu td) (hU : S[oo]? = some (.inl (0, 5))) (o33 o34 o35 o36 o37 o38 : Option Value) (kk : ∀ (o33 o34 o35 o36 o37 o38 : Option Value), mhV l K mL_go kc ks Φ 146 [some (.ref b), some (.int x1), some (.int x2), some (.int x3), some (.int n), some (.ref oo), some (.long (lJ au)), none, some (.long (lJ av)), none, some (.long (lJ bu)), none, some (.long (lJ bv)), none, some (.long (lJ tu)), none, some (.long (lJ td)), none, some (.int (nI r)), some (.long (lJ (3 * ((r / 2 % w : Nat) : Int)))), none, some (.long (lJ (3 * ((r / 2 / w : Nat) : Int)))), none, some (.int (nI (r % 2))), some (.int (lvW (lnF (lnD w r au av) (lnR r bu bv) 2))), some (.int (bI (lnF (lnD w r au av) (lnR r bu bv) 2).2)), some (.long (lJ (lvN (lnD w r au av) (lnF (lnD w r au av) (lnR r bu bv) 2)))), none, some (.long (lJ (lvD (lnR r bu bv) (lnF (lnD w r au av) (lnR r bu bv) 2)))), none, some (.long (lJ (lvL w r (lnF (lnD w r au av) (lnR r bu bv) 2)))), none, some (.int (nI 2)), o33, o34, o35, o36, o37, o38] [] S F I J P) : mhV l K mL_go kc ks Φ 146 [some (.ref b), some (.int x1), some (.int x2), some (.int x3), some (.int n), some (.ref oo), some (.long (lJ au)), none, some (.long (lJ av)), none, some (.long (lJ bu)), none, some (.long (lJ bv)), none, some (.long (lJ tu)), none, some (.long (lJ td)), none, some (.int (nI r)), some (.long (lJ (3 * ((r / 2 % w : Nat) : Int)))), none, some (.long (lJ (3 * ((r / 2 / w : Nat) : Int)))), none, some (.int (nI (r % 2))), some (.int (lvW (lnF (lnD w r au av) (lnR r bu bv) 1))), some (.int (bI (lnF (lnD w r au av) (lnR r bu bv) 1).2)), some (.long (lJ (lvN (lnD w r au av) (lnF (lnD w r au av) (lnR r bu bv) 1)))), none, some (.long (lJ (lvD (lnR r bu bv) (lnF (lnD w r au av) (lnR r bu bv) 1)))), none, some (.long (lJ (lvL w r (lnF (lnD w r au av) (lnR r bu bv) 1)))), none, some (.int (nI 1)), o33, o34, o35, o36, o37, o38] [] S F I J P := by
  have hb : -120 ≤ bu ∧ bu ≤ 120 := hbd.s (d := 1) (by omega)
  have next : ∀ (o33 o34 o35 o36 o37 o38 : Option Value), mhV l K mL_go kc ks Φ 374 [some (.ref b), some (.int x1), some (.int x2), some (.int x3), some (.int n), some (.ref oo), some (.long (lJ au)), none, some (.long (lJ av)), none, some (.long (lJ bu)), none, some (.long (lJ bv)), none, some (.long (lJ tu)), none, some (.long (lJ td)), none, some (.int (nI r)), some (.long (lJ (3 * ((r / 2 % w : Nat) : Int)))), none, some (.long (lJ (3 * ((r / 2 / w : Nat) : Int)))), none, some (.int (nI (r % 2))), some (.int (lvW (lnF (lnD w r au av) (lnR r bu bv) (1 + 1)))), some (.int (bI (lnF (lnD w r au av) (lnR r bu bv) (1 + 1)).2)), some (.long (lJ (lvN (lnD w r au av) (lnF (lnD w r au av) (lnR r bu bv) (1 + 1))))), none, some (.long (lJ (lvD (lnR r bu bv) (lnF (lnD w r au av) (lnR r bu bv) (1 + 1))))), none, some (.long (lJ (lvL w r (lnF (lnD w r au av) (lnR r bu bv) (1 + 1))))), none, some (.int (nI 1)), o33, o34, o35, o36, o37, o38] [] S F I J P := by
    intro o33 o34 o35 o36 o37 o38
    refine mh_iinc_32 (v := 1) dL_go_374 (q := 377) rfl (by decide) ?_
    refine mh_goto dL_go_377 (tgt := 146) rfl ?_
    exact kk _ _ _ _ _ _
  refine mh_iload_32 dL_go_146 (q := 148) rfl ?_
  refine mh_iconst_3 dL_go_148 (q := 149) rfl ?_
  refine mh_icmp_ge dL_go_149 (tgt := 380) (q := 152) rfl rfl (fun hh => False.elim (by revert hh; decide)) (fun _ => ?_)
  refine mh_iload_32 dL_go_152 (q := 154) rfl ?_
  refine mh_if_ne dL_go_154 (tgt := 168) (q := 157) rfl rfl (fun _ => ?_) (fun hh => False.elim (by revert hh; decide))
  refine mh_iload_32 dL_go_168 (q := 170) rfl ?_
  refine mh_iconst_1 dL_go_170 (q := 171) rfl ?_
  refine mh_icmp_ne dL_go_171 (tgt := 185) (q := 174) rfl rfl (fun hh => False.elim (by revert hh; decide)) (fun _ => ?_)
  refine mh_lload_19 dL_go_174 (q := 176) rfl ?_
  refine mh_iconst_3 dL_go_176 (q := 177) rfl ?_
  refine mh_iload_23 dL_go_177 (q := 179) rfl ?_
  refine mh_imul dL_go_179 (q := 180) rfl ?_
  refine mh_i2lN (show (3 : Int32) * nI (r % 2) = nI (3 * (r % 2)) from by rw [show (3 : Int32) = nI 3 from rfl, pk_mul]) (by omega) dL_go_180 (q := 181) rfl ?_
  refine mh_laddJ dL_go_181 (q := 182) rfl ?_
  refine mh_goto dL_go_182 (tgt := 194) rfl ?_
  refine mh_lstore_33 dL_go_194 (q := 196) rfl ?_
  rw [show 3 * ((r / 2 % w : Nat) : Int) + ((3 * (r % 2) : Nat) : Int) = lnIs w r 1 from by unfold lnIs; simp (decide := true) only [if_true, if_false] <;> omega]
  refine mh_iload_32 dL_go_196 (q := 198) rfl ?_
  refine mh_if_ne dL_go_198 (tgt := 206) (q := 201) rfl rfl (fun _ => ?_) (fun hh => False.elim (by revert hh; decide))
  refine mh_iload_32 dL_go_206 (q := 208) rfl ?_
  refine mh_iconst_1 dL_go_208 (q := 209) rfl ?_
  refine mh_icmp_ne dL_go_209 (tgt := 217) (q := 212) rfl rfl (fun hh => False.elim (by revert hh; decide)) (fun _ => ?_)
  refine mh_lload_10 dL_go_212 (q := 214) rfl ?_
  refine mh_goto dL_go_214 (tgt := 222) rfl ?_
  refine mh_lstore_35 dL_go_222 (q := 224) rfl ?_
  refine mh_lload_33 dL_go_224 (q := 226) rfl ?_
  refine mh_iload_32 dL_go_226 (q := 228) rfl ?_
  refine mh_if_ne dL_go_228 (tgt := 236) (q := 231) rfl rfl (fun _ => ?_) (fun hh => False.elim (by revert hh; decide))
  refine mh_iload_32 dL_go_236 (q := 238) rfl ?_
  refine mh_iconst_1 dL_go_238 (q := 239) rfl ?_
  refine mh_icmp_ne dL_go_239 (tgt := 247) (q := 242) rfl rfl (fun hh => False.elim (by revert hh; decide)) (fun _ => ?_)
  refine mh_lload_6 dL_go_242 (q := 244) rfl ?_
  refine mh_goto dL_go_244 (tgt := 252) rfl ?_
  refine mh_lsubJ dL_go_252 (q := 253) rfl ?_
  refine mh_lstore_37 dL_go_253 (q := 255) rfl ?_
  refine mh_lload_35 dL_go_255 (q := 257) rfl ?_
  refine mh_lconstJ_0 dL_go_257 (q := 258) rfl ?_
  refine mh_lc_ge dL_go_258 (q1 := 259) rfl dL_go_259 (tgt := 268) (q := 262) rfl rfl ⟨by omega, by omega⟩ ⟨by omega, by omega⟩ (fun cs => ?_) (fun cs => ?_)
  · skip
    refine mh_lload_37 dL_go_268 (q := 270) rfl ?_
    refine mh_lstore_37 dL_go_270 (q := 272) rfl ?_
    refine mh_lload_35 dL_go_272 (q := 274) rfl ?_
    refine mh_lconstJ_0 dL_go_274 (q := 275) rfl ?_
    refine mh_lc_ge dL_go_275 (q1 := 276) rfl dL_go_276 (tgt := 285) (q := 279) rfl rfl ⟨by omega, by omega⟩ ⟨by omega, by omega⟩ (fun _ => ?_) (fun hh => absurd cs hh)
    refine mh_lload_35 dL_go_285 (q := 287) rfl ?_
    refine mh_lstore_35 dL_go_287 (q := 289) rfl ?_
    exact tl_L_go hbd hat hU (by omega) (show lnUb (lnD w r au av) (lnR r bu bv) 1 (lnIs w r 1 - au) bu from lnUb_t (d := 1) cs) next
  · skip
    refine mh_lload_37 dL_go_262 (q := 264) rfl ?_
    refine mh_lnegJ dL_go_264 (q := 265) rfl ?_
    refine mh_goto dL_go_265 (tgt := 270) rfl ?_
    refine mh_lstore_37 dL_go_270 (q := 272) rfl ?_
    refine mh_lload_35 dL_go_272 (q := 274) rfl ?_
    refine mh_lconstJ_0 dL_go_274 (q := 275) rfl ?_
    refine mh_lc_ge dL_go_275 (q1 := 276) rfl dL_go_276 (tgt := 285) (q := 279) rfl rfl ⟨by omega, by omega⟩ ⟨by omega, by omega⟩ (fun hh => absurd hh cs) (fun _ => ?_)
    refine mh_lload_35 dL_go_279 (q := 281) rfl ?_
    refine mh_lnegJ dL_go_281 (q := 282) rfl ?_
    refine mh_goto dL_go_282 (tgt := 287) rfl ?_
    refine mh_lstore_35 dL_go_287 (q := 289) rfl ?_
    exact tl_L_go hbd hat hU (by omega) (show lnUb (lnD w r au av) (lnR r bu bv) 1 (-(lnIs w r 1 - au)) (-bu) from lnUb_f (d := 1) cs) next
set_option maxHeartbeats 4000000 in
set_option maxRecDepth 100000 in
theorem nx_L_go_2 {l : Launch} {K : mhX} {kc ks : Nat} {Φ : mhQ} {S : List mhS} {F : mhF} {I : mhI} {J : mhJ} {P : mhP} {b oo w r : Nat} {x1 x2 x3 n : Int32} {au av bu bv tu td : Int} (hbd : lnBd (lnD w r au av) (lnR r bu bv) tu td) (hat : lnAt (lnD w r au av) (lnR r bu bv) tu td) (hU : S[oo]? = some (.inl (0, 5))) (o33 o34 o35 o36 o37 o38 : Option Value) (kk : ∀ (o33 o34 o35 o36 o37 o38 : Option Value), mhV l K mL_go kc ks Φ 146 [some (.ref b), some (.int x1), some (.int x2), some (.int x3), some (.int n), some (.ref oo), some (.long (lJ au)), none, some (.long (lJ av)), none, some (.long (lJ bu)), none, some (.long (lJ bv)), none, some (.long (lJ tu)), none, some (.long (lJ td)), none, some (.int (nI r)), some (.long (lJ (3 * ((r / 2 % w : Nat) : Int)))), none, some (.long (lJ (3 * ((r / 2 / w : Nat) : Int)))), none, some (.int (nI (r % 2))), some (.int (lvW (lnF (lnD w r au av) (lnR r bu bv) 3))), some (.int (bI (lnF (lnD w r au av) (lnR r bu bv) 3).2)), some (.long (lJ (lvN (lnD w r au av) (lnF (lnD w r au av) (lnR r bu bv) 3)))), none, some (.long (lJ (lvD (lnR r bu bv) (lnF (lnD w r au av) (lnR r bu bv) 3)))), none, some (.long (lJ (lvL w r (lnF (lnD w r au av) (lnR r bu bv) 3)))), none, some (.int (nI 3)), o33, o34, o35, o36, o37, o38] [] S F I J P) : mhV l K mL_go kc ks Φ 146 [some (.ref b), some (.int x1), some (.int x2), some (.int x3), some (.int n), some (.ref oo), some (.long (lJ au)), none, some (.long (lJ av)), none, some (.long (lJ bu)), none, some (.long (lJ bv)), none, some (.long (lJ tu)), none, some (.long (lJ td)), none, some (.int (nI r)), some (.long (lJ (3 * ((r / 2 % w : Nat) : Int)))), none, some (.long (lJ (3 * ((r / 2 / w : Nat) : Int)))), none, some (.int (nI (r % 2))), some (.int (lvW (lnF (lnD w r au av) (lnR r bu bv) 2))), some (.int (bI (lnF (lnD w r au av) (lnR r bu bv) 2).2)), some (.long (lJ (lvN (lnD w r au av) (lnF (lnD w r au av) (lnR r bu bv) 2)))), none, some (.long (lJ (lvD (lnR r bu bv) (lnF (lnD w r au av) (lnR r bu bv) 2)))), none, some (.long (lJ (lvL w r (lnF (lnD w r au av) (lnR r bu bv) 2)))), none, some (.int (nI 2)), o33, o34, o35, o36, o37, o38] [] S F I J P := by
  have hb : -120 ≤ (bu + bv) ∧ (bu + bv) ≤ 120 := hbd.s (d := 2) (by omega)
  have next : ∀ (o33 o34 o35 o36 o37 o38 : Option Value), mhV l K mL_go kc ks Φ 374 [some (.ref b), some (.int x1), some (.int x2), some (.int x3), some (.int n), some (.ref oo), some (.long (lJ au)), none, some (.long (lJ av)), none, some (.long (lJ bu)), none, some (.long (lJ bv)), none, some (.long (lJ tu)), none, some (.long (lJ td)), none, some (.int (nI r)), some (.long (lJ (3 * ((r / 2 % w : Nat) : Int)))), none, some (.long (lJ (3 * ((r / 2 / w : Nat) : Int)))), none, some (.int (nI (r % 2))), some (.int (lvW (lnF (lnD w r au av) (lnR r bu bv) (2 + 1)))), some (.int (bI (lnF (lnD w r au av) (lnR r bu bv) (2 + 1)).2)), some (.long (lJ (lvN (lnD w r au av) (lnF (lnD w r au av) (lnR r bu bv) (2 + 1))))), none, some (.long (lJ (lvD (lnR r bu bv) (lnF (lnD w r au av) (lnR r bu bv) (2 + 1))))), none, some (.long (lJ (lvL w r (lnF (lnD w r au av) (lnR r bu bv) (2 + 1))))), none, some (.int (nI 2)), o33, o34, o35, o36, o37, o38] [] S F I J P := by
    intro o33 o34 o35 o36 o37 o38
    refine mh_iinc_32 (v := 1) dL_go_374 (q := 377) rfl (by decide) ?_
    refine mh_goto dL_go_377 (tgt := 146) rfl ?_
    exact kk _ _ _ _ _ _
  refine mh_iload_32 dL_go_146 (q := 148) rfl ?_
  refine mh_iconst_3 dL_go_148 (q := 149) rfl ?_
  refine mh_icmp_ge dL_go_149 (tgt := 380) (q := 152) rfl rfl (fun hh => False.elim (by revert hh; decide)) (fun _ => ?_)
  refine mh_iload_32 dL_go_152 (q := 154) rfl ?_
  refine mh_if_ne dL_go_154 (tgt := 168) (q := 157) rfl rfl (fun _ => ?_) (fun hh => False.elim (by revert hh; decide))
  refine mh_iload_32 dL_go_168 (q := 170) rfl ?_
  refine mh_iconst_1 dL_go_170 (q := 171) rfl ?_
  refine mh_icmp_ne dL_go_171 (tgt := 185) (q := 174) rfl rfl (fun _ => ?_) (fun hh => False.elim (by revert hh; decide))
  refine mh_lload_19 dL_go_185 (q := 187) rfl ?_
  refine mh_lload_21 dL_go_187 (q := 189) rfl ?_
  refine mh_laddJ dL_go_189 (q := 190) rfl ?_
  refine mh_ldc2_wJ (z := 3) (by decide) dL_go_190 (q := 193) rfl wd_440 ?_
  refine mh_laddJ dL_go_193 (q := 194) rfl ?_
  refine mh_lstore_33 dL_go_194 (q := 196) rfl ?_
  rw [show 3 * ((r / 2 % w : Nat) : Int) + 3 * ((r / 2 / w : Nat) : Int) + 3 = lnIs w r 2 from by unfold lnIs; simp (decide := true) only [if_true, if_false] <;> omega]
  refine mh_iload_32 dL_go_196 (q := 198) rfl ?_
  refine mh_if_ne dL_go_198 (tgt := 206) (q := 201) rfl rfl (fun _ => ?_) (fun hh => False.elim (by revert hh; decide))
  refine mh_iload_32 dL_go_206 (q := 208) rfl ?_
  refine mh_iconst_1 dL_go_208 (q := 209) rfl ?_
  refine mh_icmp_ne dL_go_209 (tgt := 217) (q := 212) rfl rfl (fun _ => ?_) (fun hh => False.elim (by revert hh; decide))
  refine mh_lload_10 dL_go_217 (q := 219) rfl ?_
  refine mh_lload_12 dL_go_219 (q := 221) rfl ?_
  refine mh_laddJ dL_go_221 (q := 222) rfl ?_
  refine mh_lstore_35 dL_go_222 (q := 224) rfl ?_
  refine mh_lload_33 dL_go_224 (q := 226) rfl ?_
  refine mh_iload_32 dL_go_226 (q := 228) rfl ?_
  refine mh_if_ne dL_go_228 (tgt := 236) (q := 231) rfl rfl (fun _ => ?_) (fun hh => False.elim (by revert hh; decide))
  refine mh_iload_32 dL_go_236 (q := 238) rfl ?_
  refine mh_iconst_1 dL_go_238 (q := 239) rfl ?_
  refine mh_icmp_ne dL_go_239 (tgt := 247) (q := 242) rfl rfl (fun _ => ?_) (fun hh => False.elim (by revert hh; decide))
  refine mh_lload_6 dL_go_247 (q := 249) rfl ?_
  refine mh_lload_8 dL_go_249 (q := 251) rfl ?_
  refine mh_laddJ dL_go_251 (q := 252) rfl ?_
  refine mh_lsubJ dL_go_252 (q := 253) rfl ?_
  refine mh_lstore_37 dL_go_253 (q := 255) rfl ?_
  refine mh_lload_35 dL_go_255 (q := 257) rfl ?_
  refine mh_lconstJ_0 dL_go_257 (q := 258) rfl ?_
  refine mh_lc_ge dL_go_258 (q1 := 259) rfl dL_go_259 (tgt := 268) (q := 262) rfl rfl ⟨by omega, by omega⟩ ⟨by omega, by omega⟩ (fun cs => ?_) (fun cs => ?_)
  · skip
    refine mh_lload_37 dL_go_268 (q := 270) rfl ?_
    refine mh_lstore_37 dL_go_270 (q := 272) rfl ?_
    refine mh_lload_35 dL_go_272 (q := 274) rfl ?_
    refine mh_lconstJ_0 dL_go_274 (q := 275) rfl ?_
    refine mh_lc_ge dL_go_275 (q1 := 276) rfl dL_go_276 (tgt := 285) (q := 279) rfl rfl ⟨by omega, by omega⟩ ⟨by omega, by omega⟩ (fun _ => ?_) (fun hh => absurd cs hh)
    refine mh_lload_35 dL_go_285 (q := 287) rfl ?_
    refine mh_lstore_35 dL_go_287 (q := 289) rfl ?_
    exact tl_L_go hbd hat hU (by omega) (show lnUb (lnD w r au av) (lnR r bu bv) 2 (lnIs w r 2 - (au + av)) (bu + bv) from lnUb_t (d := 2) cs) next
  · skip
    refine mh_lload_37 dL_go_262 (q := 264) rfl ?_
    refine mh_lnegJ dL_go_264 (q := 265) rfl ?_
    refine mh_goto dL_go_265 (tgt := 270) rfl ?_
    refine mh_lstore_37 dL_go_270 (q := 272) rfl ?_
    refine mh_lload_35 dL_go_272 (q := 274) rfl ?_
    refine mh_lconstJ_0 dL_go_274 (q := 275) rfl ?_
    refine mh_lc_ge dL_go_275 (q1 := 276) rfl dL_go_276 (tgt := 285) (q := 279) rfl rfl ⟨by omega, by omega⟩ ⟨by omega, by omega⟩ (fun hh => absurd hh cs) (fun _ => ?_)
    refine mh_lload_35 dL_go_279 (q := 281) rfl ?_
    refine mh_lnegJ dL_go_281 (q := 282) rfl ?_
    refine mh_goto dL_go_282 (tgt := 287) rfl ?_
    refine mh_lstore_35 dL_go_287 (q := 289) rfl ?_
    exact tl_L_go hbd hat hU (by omega) (show lnUb (lnD w r au av) (lnR r bu bv) 2 (-(lnIs w r 2 - (au + av))) (-(bu + bv)) from lnUb_f (d := 2) cs) next
/-- what the law keeps of a line: crossings, mirrors, room, side, whether it is in a middle -/
def lwOut (S : List mhS) (I : mhI) (oo c m r : Nat) (sd fl : Int32) : Prop := S[oo]? = some (.inl (0, 5)) ∧ I oo 0 = nI c ∧ I oo 1 = nI m ∧ I oo 2 = nI r ∧ I oo 3 = sd ∧ I oo 4 = fl
set_option maxHeartbeats 4000000 in
set_option maxRecDepth 100000 in
theorem mx_L_go {l : Launch} {K : mhX} {kc ks : Nat} {Φ : mhQ} {S : List mhS} {F : mhF} {I : mhI} {J : mhJ} {P : mhP} {b oo w h r : Nat} {x1 x2 x3 n : Int32} {au av bu bv tu td : Int} {kd : Nat → Int32} {c m : Nat} {sd fl : Int32} (hO : lwOf S I b w h kd) (hU : lwOut S I oo c m r sd fl) (hr : r < gRooms w h) (hbd : lnBd (lnD w r au av) (lnR r bu bv) tu td) (hat : lnAt (lnD w r au av) (lnR r bu bv) tu td) (o18 o19 o20 o21 o22 o23 o24 o25 o26 o27 o28 o29 o30 o31 o32 o33 o34 o35 o36 o37 o38 : Option Value) (kk : ∀ (o33 o34 o35 o36 o37 o38 : Option Value), mhV l K mL_go kc ks Φ 380 [some (.ref b), some (.int x1), some (.int x2), some (.int x3), some (.int n), some (.ref oo), some (.long (lJ au)), none, some (.long (lJ av)), none, some (.long (lJ bu)), none, some (.long (lJ bv)), none, some (.long (lJ tu)), none, some (.long (lJ td)), none, some (.int (nI r)), some (.long (lJ (3 * ((r / 2 % w : Nat) : Int)))), none, some (.long (lJ (3 * ((r / 2 / w : Nat) : Int)))), none, some (.int (nI (r % 2))), some (.int (lvW (lnF (lnD w r au av) (lnR r bu bv) 3))), some (.int (bI (lnF (lnD w r au av) (lnR r bu bv) 3).2)), some (.long (lJ (lvN (lnD w r au av) (lnF (lnD w r au av) (lnR r bu bv) 3)))), none, some (.long (lJ (lvD (lnR r bu bv) (lnF (lnD w r au av) (lnR r bu bv) 3)))), none, some (.long (lJ (lvL w r (lnF (lnD w r au av) (lnR r bu bv) 3)))), none, some (.int (nI 3)), o33, o34, o35, o36, o37, o38] [] S F I J P) : mhV l K mL_go kc ks Φ 90 [some (.ref b), some (.int x1), some (.int x2), some (.int x3), some (.int n), some (.ref oo), some (.long (lJ au)), none, some (.long (lJ av)), none, some (.long (lJ bu)), none, some (.long (lJ bv)), none, some (.long (lJ tu)), none, some (.long (lJ td)), none, o18, o19, o20, o21, o22, o23, o24, o25, o26, o27, o28, o29, o30, o31, o32, o33, o34, o35, o36, o37, o38] [] S F I J P := by
  have hg := hO.2.1
  have hrm := gBd hg
  have hw1 := hg.1
  have hw2 := hg.2.1
  have hd1 : r / 2 % w ≤ r := Nat.le_trans (Nat.mod_le _ _) (Nat.div_le_self _ _)
  have hd2 : r / 2 / w ≤ r := Nat.le_trans (Nat.div_le_self _ _) (Nat.div_le_self _ _)
  have e2 : nI r / 2 = nI (r / 2) := by rw [show (2 : Int32) = nI 2 from rfl]; exact pk_div (by omega) (by omega) (by omega)
  have e3 : nI (r / 2) - nI (r / 2) / nI w * nI w = nI (r / 2 % w) := pk_rem (by omega) (by omega) (by omega)
  have e4 : nI (r / 2) / nI w = nI (r / 2 / w) := pk_div (by omega) (by omega) (by omega)
  have e5 : nI r - nI r / 2 * 2 = nI (r % 2) := mh_ev r (by omega)
  refine mh_aload_5 dL_go_90 (q := 92) rfl ?_
  refine mh_iconst_2 dL_go_92 (q := 93) rfl ?_
  refine mh_iald dL_go_93 (q := 94) rfl hU.1 (vp_in_nI (n := 2) (by decide) (by decide)) ?_
  rw [hU.2.2.2.1]
  refine mh_istore_18 dL_go_94 (q := 96) rfl ?_
  refine mh_iconst_3 dL_go_96 (q := 97) rfl ?_
  refine mh_iload_18 dL_go_97 (q := 99) rfl ?_
  refine mh_iconst_2 dL_go_99 (q := 100) rfl ?_
  refine mh_idiv dL_go_100 (q := 101) rfl (by decide) ?_
  rw [e2]
  refine mh_aload_0 dL_go_101 (q := 102) rfl ?_
  refine mh_iconst_0 dL_go_102 (q := 103) rfl ?_
  refine mh_iald dL_go_103 (q := 104) rfl hO.1 (vp_in_nI (n := 0) (by decide) (by decide)) ?_
  rw [hO.2.2.1]
  refine mh_irem dL_go_104 (q := 105) rfl (gW0 hO.2.1) ?_
  rw [e3]
  refine mh_imul dL_go_105 (q := 106) rfl ?_
  refine mh_i2lN (show (3 : Int32) * nI (r / 2 % w) = nI (3 * (r / 2 % w)) from by rw [show (3 : Int32) = nI 3 from rfl, pk_mul]) (by omega) dL_go_106 (q := 107) rfl ?_
  rw [show ((3 * (r / 2 % w) : Nat) : Int) = 3 * ((r / 2 % w : Nat) : Int) from by omega]
  refine mh_lstore_19 dL_go_107 (q := 109) rfl ?_
  refine mh_iconst_3 dL_go_109 (q := 110) rfl ?_
  refine mh_iload_18 dL_go_110 (q := 112) rfl ?_
  refine mh_iconst_2 dL_go_112 (q := 113) rfl ?_
  refine mh_idiv dL_go_113 (q := 114) rfl (by decide) ?_
  rw [e2]
  refine mh_aload_0 dL_go_114 (q := 115) rfl ?_
  refine mh_iconst_0 dL_go_115 (q := 116) rfl ?_
  refine mh_iald dL_go_116 (q := 117) rfl hO.1 (vp_in_nI (n := 0) (by decide) (by decide)) ?_
  rw [hO.2.2.1]
  refine mh_idiv dL_go_117 (q := 118) rfl (gW0 hO.2.1) ?_
  rw [e4]
  refine mh_imul dL_go_118 (q := 119) rfl ?_
  refine mh_i2lN (show (3 : Int32) * nI (r / 2 / w) = nI (3 * (r / 2 / w)) from by rw [show (3 : Int32) = nI 3 from rfl, pk_mul]) (by omega) dL_go_119 (q := 120) rfl ?_
  rw [show ((3 * (r / 2 / w) : Nat) : Int) = 3 * ((r / 2 / w : Nat) : Int) from by omega]
  refine mh_lstore_21 dL_go_120 (q := 122) rfl ?_
  refine mh_iload_18 dL_go_122 (q := 124) rfl ?_
  refine mh_iconst_2 dL_go_124 (q := 125) rfl ?_
  refine mh_irem dL_go_125 (q := 126) rfl (by decide) ?_
  rw [e5]
  refine mh_istore_23 dL_go_126 (q := 128) rfl ?_
  refine mh_iconst_m1 dL_go_128 (q := 129) rfl ?_
  refine mh_istore_24 dL_go_129 (q := 131) rfl ?_
  refine mh_iconst_0 dL_go_131 (q := 132) rfl ?_
  refine mh_istore_25 dL_go_132 (q := 134) rfl ?_
  refine mh_lconstJ_0 dL_go_134 (q := 135) rfl ?_
  refine mh_lstore_26 dL_go_135 (q := 137) rfl ?_
  refine mh_lconstJ_1 dL_go_137 (q := 138) rfl ?_
  refine mh_lstore_28 dL_go_138 (q := 140) rfl ?_
  refine mh_lconstJ_0 dL_go_140 (q := 141) rfl ?_
  refine mh_lstore_30 dL_go_141 (q := 143) rfl ?_
  refine mh_iconst_0 dL_go_143 (q := 144) rfl ?_
  refine mh_istore_32 dL_go_144 (q := 146) rfl ?_
  refine nx_L_go_0 hbd hat hU.1 _ _ _ _ _ _ (fun o33 o34 o35 o36 o37 o38 => ?_)
  refine nx_L_go_1 hbd hat hU.1 _ _ _ _ _ _ (fun o33 o34 o35 o36 o37 o38 => ?_)
  refine nx_L_go_2 hbd hat hU.1 _ _ _ _ _ _ (fun o33 o34 o35 o36 o37 o38 => ?_)
  skip
  refine mh_iload_32 dL_go_146 (q := 148) rfl ?_
  refine mh_iconst_3 dL_go_148 (q := 149) rfl ?_
  refine mh_icmp_ge dL_go_149 (tgt := 380) (q := 152) rfl rfl (fun _ => ?_) (fun hh => False.elim (by revert hh; decide))
  exact kk _ _ _ _ _ _
