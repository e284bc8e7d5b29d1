/-! the law: which side is come to next -/
def lvW (s : Option Nat × Bool) : Int32 := match s.1 with
  | none => -1
  | some b => nI b
def lvN (D : Nat → Int) (s : Option Nat × Bool) : Int := match s.1 with
  | none => 0
  | some b => D b
def lvD (R : Nat → Int) (s : Option Nat × Bool) : Int := match s.1 with
  | none => 1
  | some b => -(R b)
def lvL (w r : Nat) (s : Option Nat × Bool) : Int := match s.1 with
  | none => 0
  | some b => lnIs w r b
/-- a side's time, as the law has it -/
def lnUb (D R : Nat → Int) (d : Nat) (up by_ : Int) : Prop := (R d = 0 → by_ = 0) ∧ (R d < 0 → by_ = -(R d) ∧ up = D d) ∧ (0 < R d → by_ = R d ∧ up = -(D d))
theorem lnF_lt {D R : Nat → Int} : ∀ {n b : Nat}, (lnF D R n).1 = some b → b < n ∧ R b < 0 := fun {n b} h => by
  have hg := lnF_GS D R n
  generalize lnF D R n = s at *
  obtain ⟨s1, s2⟩ := s
  cases h
  exact ⟨hg.1, hg.2.1⟩
theorem lnF_no {D R : Nat → Int} {d : Nat} (h : (lnF D R d).1 = none) (hn : R d < 0) : lnF D R (d + 1) = (some d, false) := by
  simp only [lnF, if_pos hn, h]
theorem lnF_so {D R : Nat → Int} {d b : Nat} (h : (lnF D R d).1 = some b) (hn : R d < 0) : lnF D R (d + 1) = if D b * (-R d) < D d * (-R b) then lnF D R d else (some d, decide (D d * (-R b) = D b * (-R d))) := by
  simp only [lnF, if_pos hn, h]
set_option maxHeartbeats 4000000 in
set_option maxRecDepth 100000 in
theorem tl_L_go {l : Launch} {K : mhX} {kc ks : Nat} {Φ : mhQ} {S : List mhS} {F : mhF} {I : mhI} {J : mhJ} {P : mhP} {b oo w r : Nat} {x1 x2 x3 n : Int32} {au av bu bv tu td : Int} {D R : Nat → Int} (hbd : lnBd D R tu td) (hat : lnAt D R tu td) (hU : S[oo]? = some (.inl (0, 5))) {d : Nat} (hd : d < 3) {up by_ : Int} (hub : lnUb D R d up by_) (kk : ∀ (o33 o34 o35 o36 o37 o38 : Option Value), mhV l K mL_go kc ks Φ 374 [some (.ref b), some (.int x1), some (.int x2), some (.int x3), some (.int n), some (.ref oo), some (.long (lJ au)), none, some (.long (lJ av)), none, some (.long (lJ bu)), none, some (.long (lJ bv)), none, some (.long (lJ tu)), none, some (.long (lJ td)), none, some (.int (nI r)), some (.long (lJ (3 * ((r / 2 % w : Nat) : Int)))), none, some (.long (lJ (3 * ((r / 2 / w : Nat) : Int)))), none, some (.int (nI (r % 2))), some (.int (lvW (lnF D R (d + 1)))), some (.int (bI (lnF D R (d + 1)).2)), some (.long (lJ (lvN D (lnF D R (d + 1))))), none, some (.long (lJ (lvD R (lnF D R (d + 1))))), none, some (.long (lJ (lvL w r (lnF D R (d + 1))))), none, some (.int (nI d)), o33, o34, o35, o36, o37, o38] [] S F I J P) : mhV l K mL_go kc ks Φ 289 [some (.ref b), some (.int x1), some (.int x2), some (.int x3), some (.int n), some (.ref oo), some (.long (lJ au)), none, some (.long (lJ av)), none, some (.long (lJ bu)), none, some (.long (lJ bv)), none, some (.long (lJ tu)), none, some (.long (lJ td)), none, some (.int (nI r)), some (.long (lJ (3 * ((r / 2 % w : Nat) : Int)))), none, some (.long (lJ (3 * ((r / 2 / w : Nat) : Int)))), none, some (.int (nI (r % 2))), some (.int (lvW (lnF D R d))), some (.int (bI (lnF D R d).2)), some (.long (lJ (lvN D (lnF D R d)))), none, some (.long (lJ (lvD R (lnF D R d)))), none, some (.long (lJ (lvL w r (lnF D R d)))), none, some (.int (nI d)), some (.long (lJ (lnIs w r d))), none, some (.long (lJ by_)), none, some (.long (lJ up)), none] [] S F I J P := by
  have b1 := hbd.1 d hd
  obtain ⟨u1, u2, u3⟩ := hub
  have hby : -120 ≤ by_ ∧ by_ ≤ 120 := by
    rcases Int.lt_trichotomy (R d) 0 with q | q | q
    · have := u2 q; omega
    · have := u1 q; omega
    · have := u3 q; omega
  obtain ⟨b2, b3⟩ := hbd
  refine mh_lload_35 dL_go_289 (q := 291) rfl ?_
  refine mh_lconstJ_0 dL_go_291 (q := 292) rfl ?_
  refine mh_lc_eq dL_go_292 (q1 := 293) rfl dL_go_293 (tgt := 374) (q := 296) rfl rfl ⟨by omega, by omega⟩ ⟨by omega, by omega⟩ (fun cz => ?_) (fun cz => ?_)
  · skip
    have e : lnF D R (d + 1) = lnF D R d := by
      show (if R d < 0 then _ else _) = _
      rw [if_neg (fun q => by have := u2 q; omega)]
    rw [← e]
    exact kk _ _ _ _ _ _
  · skip
    refine mh_lload_37 dL_go_296 (q := 298) rfl ?_
    refine mh_lload_16 dL_go_298 (q := 300) rfl ?_
    refine mh_lmulJ dL_go_300 (q := 301) rfl ?_
    refine mh_lload_14 dL_go_301 (q := 303) rfl ?_
    refine mh_lload_35 dL_go_303 (q := 305) rfl ?_
    refine mh_lmulJ dL_go_305 (q := 306) rfl ?_
    have hup : -3500 ≤ up ∧ up ≤ 3500 := by
      rcases Int.lt_trichotomy (R d) 0 with q | q | q
      · have := u2 q; omega
      · have := u1 q; omega
      · have := u3 q; omega
    refine mh_lc_le dL_go_306 (q1 := 307) rfl dL_go_307 (tgt := 374) (q := 310) rfl rfl (lB_mul (by omega) (by omega)) (lB_mul (by omega) (by omega)) (fun cm => ?_) (fun cm => ?_)
    · skip
      have e : lnF D R (d + 1) = lnF D R d := by
        show (if R d < 0 then _ else _) = _
        rw [if_neg (fun q => by
          obtain ⟨e1, e2⟩ := u2 q
          have := (hat.2.2 d hd).2 q
          rw [e1, e2] at cm
          grind)]
      rw [← e]
      exact kk _ _ _ _ _ _
    · skip
      have hneg : R d < 0 := by
        rcases Int.lt_trichotomy (R d) 0 with q | q | q
        · exact q
        · exact absurd (u1 q) cz
        · exfalso
          obtain ⟨e1, e2⟩ := u3 q
          have := (hat.2.2 d hd).1
          rw [e1, e2] at cm
          apply cm
          grind
      obtain ⟨e1, e2⟩ := u2 hneg
      subst e1; subst e2
      cases hs : (lnF D R d).1 with
      | none =>
        rw [lnF_no hs hneg] at kk
        have eW : lvW (lnF D R d) = -1 := by unfold lvW; rw [hs]
        refine mhV_lo (lo := [some (.ref b), some (.int x1), some (.int x2), some (.int x3), some (.int n), some (.ref oo), some (.long (lJ au)), none, some (.long (lJ av)), none, some (.long (lJ bu)), none, some (.long (lJ bv)), none, some (.long (lJ tu)), none, some (.long (lJ td)), none, some (.int (nI r)), some (.long (lJ (3 * ((r / 2 % w : Nat) : Int)))), none, some (.long (lJ (3 * ((r / 2 / w : Nat) : Int)))), none, some (.int (nI (r % 2))), some (.int (-1)), some (.int (bI (lnF D R d).2)), some (.long (lJ (lvN D (lnF D R d)))), none, some (.long (lJ (lvD R (lnF D R d)))), none, some (.long (lJ (lvL w r (lnF D R d)))), none, some (.int (nI d)), some (.long (lJ (lnIs w r d))), none, some (.long (lJ (-(R d)))), none, some (.long (lJ (D d))), none]) (by rw [eW]) ?_
        refine mh_iload_24 dL_go_310 (q := 312) rfl ?_
        refine mh_if_lt dL_go_312 (tgt := 332) (q := 315) rfl rfl (fun _ => ?_) (fun hh => absurd (by decide) hh)
        refine mh_iload_24 dL_go_332 (q := 334) rfl ?_
        refine mh_if_lt dL_go_334 (tgt := 355) (q := 337) rfl rfl (fun _ => ?_) (fun hh => absurd (by decide) hh)
        refine mh_iconst_0 dL_go_355 (q := 356) rfl ?_
        refine mh_istore_25 dL_go_356 (q := 358) rfl ?_
        refine mh_iload_32 dL_go_358 (q := 360) rfl ?_
        refine mh_istore_24 dL_go_360 (q := 362) rfl ?_
        refine mh_lload_37 dL_go_362 (q := 364) rfl ?_
        refine mh_lstore_26 dL_go_364 (q := 366) rfl ?_
        refine mh_lload_35 dL_go_366 (q := 368) rfl ?_
        refine mh_lstore_28 dL_go_368 (q := 370) rfl ?_
        refine mh_lload_33 dL_go_370 (q := 372) rfl ?_
        refine mh_lstore_30 dL_go_372 (q := 374) rfl ?_
        exact kk _ _ _ _ _ _
      | some c =>
        rw [lnF_so hs hneg] at kk
        have hc := lnF_lt hs
        have hcb := b2 c (by omega)
        have eW : lvW (lnF D R d) = nI c := by unfold lvW; rw [hs]
        have eN : lvN D (lnF D R d) = D c := by unfold lvN; rw [hs]
        have eD : lvD R (lnF D R d) = -(R c) := by unfold lvD; rw [hs]
        refine mhV_lo (lo := [some (.ref b), some (.int x1), some (.int x2), some (.int x3), some (.int n), some (.ref oo), some (.long (lJ au)), none, some (.long (lJ av)), none, some (.long (lJ bu)), none, some (.long (lJ bv)), none, some (.long (lJ tu)), none, some (.long (lJ td)), none, some (.int (nI r)), some (.long (lJ (3 * ((r / 2 % w : Nat) : Int)))), none, some (.long (lJ (3 * ((r / 2 / w : Nat) : Int)))), none, some (.int (nI (r % 2))), some (.int (nI c)), some (.int (bI (lnF D R d).2)), some (.long (lJ (D c))), none, some (.long (lJ (-(R c)))), none, some (.long (lJ (lvL w r (lnF D R d)))), none, some (.int (nI d)), some (.long (lJ (lnIs w r d))), none, some (.long (lJ (-(R d)))), none, some (.long (lJ (D d))), none]) (by rw [eW, eN, eD]) ?_
        refine mh_iload_24 dL_go_310 (q := 312) rfl ?_
        refine mh_if_lt dL_go_312 (tgt := 332) (q := 315) rfl rfl (fun hh => absurd hh (nI_pos (by omega))) (fun _ => ?_)
        refine mh_lload_37 dL_go_315 (q := 317) rfl ?_
        refine mh_lload_28 dL_go_317 (q := 319) rfl ?_
        refine mh_lmulJ dL_go_319 (q := 320) rfl ?_
        refine mh_lload_26 dL_go_320 (q := 322) rfl ?_
        refine mh_lload_35 dL_go_322 (q := 324) rfl ?_
        refine mh_lmulJ dL_go_324 (q := 325) rfl ?_
        refine mh_lc_le dL_go_325 (q1 := 326) rfl dL_go_326 (tgt := 332) (q := 329) rfl rfl (lB_mul (by omega) (by omega)) (lB_mul (by omega) (by omega)) (fun c3 => ?_) (fun c3 => ?_)
        · skip
          rw [if_neg (by omega)] at kk
          refine mh_iload_24 dL_go_332 (q := 334) rfl ?_
          refine mh_if_lt dL_go_334 (tgt := 355) (q := 337) rfl rfl (fun hh => absurd hh (nI_pos (by omega))) (fun _ => ?_)
          refine mh_lload_37 dL_go_337 (q := 339) rfl ?_
          refine mh_lload_28 dL_go_339 (q := 341) rfl ?_
          refine mh_lmulJ dL_go_341 (q := 342) rfl ?_
          refine mh_lload_26 dL_go_342 (q := 344) rfl ?_
          refine mh_lload_35 dL_go_344 (q := 346) rfl ?_
          refine mh_lmulJ dL_go_346 (q := 347) rfl ?_
          refine mh_lc_ne dL_go_347 (q1 := 348) rfl dL_go_348 (tgt := 355) (q := 351) rfl rfl (lB_mul (by omega) (by omega)) (lB_mul (by omega) (by omega)) (fun c4 => ?_) (fun c4 => ?_)
          · skip
            rw [decide_eq_false (by omega)] at kk
            refine mh_iconst_0 dL_go_355 (q := 356) rfl ?_
            refine mh_istore_25 dL_go_356 (q := 358) rfl ?_
            refine mh_iload_32 dL_go_358 (q := 360) rfl ?_
            refine mh_istore_24 dL_go_360 (q := 362) rfl ?_
            refine mh_lload_37 dL_go_362 (q := 364) rfl ?_
            refine mh_lstore_26 dL_go_364 (q := 366) rfl ?_
            refine mh_lload_35 dL_go_366 (q := 368) rfl ?_
            refine mh_lstore_28 dL_go_368 (q := 370) rfl ?_
            refine mh_lload_33 dL_go_370 (q := 372) rfl ?_
            refine mh_lstore_30 dL_go_372 (q := 374) rfl ?_
            exact kk _ _ _ _ _ _
          · skip
            rw [decide_eq_true (by omega)] at kk
            refine mh_iconst_1 dL_go_351 (q := 352) rfl ?_
            refine mh_goto dL_go_352 (tgt := 356) rfl ?_
            refine mh_istore_25 dL_go_356 (q := 358) rfl ?_
            refine mh_iload_32 dL_go_358 (q := 360) rfl ?_
            refine mh_istore_24 dL_go_360 (q := 362) rfl ?_
            refine mh_lload_37 dL_go_362 (q := 364) rfl ?_
            refine mh_lstore_26 dL_go_364 (q := 366) rfl ?_
            refine mh_lload_35 dL_go_366 (q := 368) rfl ?_
            refine mh_lstore_28 dL_go_368 (q := 370) rfl ?_
            refine mh_lload_33 dL_go_370 (q := 372) rfl ?_
            refine mh_lstore_30 dL_go_372 (q := 374) rfl ?_
            exact kk _ _ _ _ _ _
        · skip
          refine mh_goto dL_go_329 (tgt := 374) rfl ?_
          rw [if_pos (by omega)] at kk
          rw [← eW, ← eN, ← eD]
          exact kk _ _ _ _ _ _
