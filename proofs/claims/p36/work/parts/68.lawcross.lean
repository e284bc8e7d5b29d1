/-! the law: a crossing -/
theorem mhV_gI {l : Launch} {K : mhX} {M : mhM} {kc ks : Nat} {Φ : mhQ} {pc : Nat} {lo : List (Option Value)} {st : List Value} {S : List mhS} {F : mhF} {I : mhI} {J : mhJ} {P : mhP} (Pr : mhI → Prop) (h : Pr I) (k : ∀ I2, Pr I2 → mhV l K M kc ks Φ pc lo st S F I2 J P) : mhV l K M kc ks Φ pc lo st S F I J P := k I h
def frO (oo : Nat) (I I2 : mhI) : Prop := ∀ c y, c ≠ oo → I2 c y = I c y
theorem frO.rf {oo : Nat} {I : mhI} : frO oo I I := fun _ _ _ => rfl
theorem frO.tr {oo : Nat} {I I1 I2 : mhI} (h : frO oo I I1) (h2 : frO oo I1 I2) : frO oo I I2 := fun c y e => (h2 c y e).trans (h c y e)
theorem frO.up {oo : Nat} {I : mhI} {i x : Int32} : frO oo I (mhUI I oo i x) := fun c y e => mhUI_ne e
theorem lwOf.fr {S : List mhS} {I I2 : mhI} {b w h oo : Nat} {kd : Nat → Int32} (hO : lwOf S I b w h kd) (hf : frO oo I I2) (hne : b ≠ oo) : lwOf S I2 b w h kd := ⟨hO.1, hO.2.1, (hf _ _ hne).trans hO.2.2.1, (hf _ _ hne).trans hO.2.2.2.1, (hf _ _ hne).trans hO.2.2.2.2.1, fun k hk => (hf _ _ hne).trans (hO.2.2.2.2.2 k hk)⟩
section LWO
variable {S : List mhS} {I : mhI} {oo c m r : Nat} {sd fl : Int32}
theorem lwOut.u03 (h : lwOut S I oo c m r sd fl) (x : Int32) : lwOut S (mhUI (mhUI I oo 0 (nI (c + 1))) oo 3 x) oo (c + 1) m r x fl := by
  obtain ⟨h1, h2, h3, h4, h5, h6⟩ := h
  exact ⟨h1, by simp (decide := true) [mhUI], by simp (decide := true) [mhUI, h3], by simp (decide := true) [mhUI, h4], by simp (decide := true) [mhUI], by simp (decide := true) [mhUI, h6]⟩
theorem lwOut.u1 (h : lwOut S I oo c m r sd fl) : lwOut S (mhUI I oo 1 (nI (m + 1))) oo c (m + 1) r sd fl := by
  obtain ⟨h1, h2, h3, h4, h5, h6⟩ := h
  exact ⟨h1, by simp (decide := true) [mhUI, h2], by simp (decide := true) [mhUI], by simp (decide := true) [mhUI, h4], by simp (decide := true) [mhUI, h5], by simp (decide := true) [mhUI, h6]⟩
theorem lwOut.u2 (h : lwOut S I oo c m r sd fl) (q : Nat) : lwOut S (mhUI I oo 2 (nI q)) oo c m q sd fl := by
  obtain ⟨h1, h2, h3, h4, h5, h6⟩ := h
  exact ⟨h1, by simp (decide := true) [mhUI, h2], by simp (decide := true) [mhUI, h3], by simp (decide := true) [mhUI], by simp (decide := true) [mhUI, h5], by simp (decide := true) [mhUI, h6]⟩
theorem lwOut.u4 (h : lwOut S I oo c m r sd fl) (x : Int32) : lwOut S (mhUI I oo 4 x) oo c m r sd x := by
  obtain ⟨h1, h2, h3, h4, h5, h6⟩ := h
  exact ⟨h1, by simp (decide := true) [mhUI, h2], by simp (decide := true) [mhUI, h3], by simp (decide := true) [mhUI, h4], by simp (decide := true) [mhUI, h5], by simp (decide := true) [mhUI]⟩
end LWO
set_option maxHeartbeats 4000000 in
set_option maxRecDepth 100000 in
theorem st_L_go {l : Launch} {K : mhX} {kc ks : Nat} {Φ : mhQ} {S : List mhS} {F : mhF} {I : mhI} {J : mhJ} {P : mhP} {b oo w h r : Nat} {x1 x2 x3 n : Int32} {au av bu bv tu td : Int} {kd : Nat → Int32} {c m k : Nat} {sd fl : Int32} (hO : lwOf S I b w h kd) (hU : lwOut S I oo c m r sd fl) (hne : b ≠ oo) (hr : r < gRooms w h) (hk : k < 3) (hkd : ∀ x, x < gSides w h → 0 ≤ kd x) (hb : (lnF (lnD w r au av) (lnR r bu bv) 3).1 = some k) (o33 o34 o35 o36 o37 o38 : Option Value) (hpost : (lnF (lnD w r au av) (lnR r bu bv) 3).2 = true → Φ (some (.int 0)) S F I J P) (hout : (lnF (lnD w r au av) (lnR r bu bv) 3).2 = false → ¬ kd (gSide w h r k) = 0 → gB w h r k = -9 → ∀ I2, frO oo I I2 → lwOut S I2 oo (c + 1) m r (nI (gSide w h r k)) fl → Φ (some (.int 1)) S F I2 J P) (hgo : (lnF (lnD w r au av) (lnR r bu bv) 3).2 = false → ¬ kd (gSide w h r k) = 0 → ∀ q, q < gRooms w h → gB w h r k = nI q → ∀ I2, frO oo I I2 → lwOut S I2 oo (c + 1) m q (nI (gSide w h r k)) fl → ∀ (o18 o19 o20 o21 o22 o23 o24 o25 o26 o27 o28 o29 o30 o31 o32 o33 o34 o35 o36 o37 o38 : Option Value), mhV l K mL_go kc ks Φ 76 [some (.ref b), some (.int x1), some (.int x2), some (.int x3), some (.int n), some (.ref oo), some (.long (lJ (au))), none, some (.long (lJ (av))), none, some (.long (lJ (bu))), none, some (.long (lJ (bv))), none, some (.long (lJ (lnD w r au av k))), none, some (.long (lJ (-(lnR r bu bv k)))), none, o18, o19, o20, o21, o22, o23, o24, o25, o26, o27, o28, o29, o30, o31, o32, o33, o34, o35, o36, o37, o38] [] S F I2 J P) (hmir : (lnF (lnD w r au av) (lnR r bu bv) 3).2 = false → kd (gSide w h r k) = 0 → ∀ I2, frO oo I I2 → lwOut S I2 oo (c + 1) (m + 1) r (nI (gSide w h r k)) fl → ∀ (o18 o19 o20 o21 o22 o23 o24 o25 o26 o27 o28 o29 o30 o31 o32 o33 o34 o35 o36 o37 o38 : Option Value), mhV l K mL_go kc ks Φ 76 [some (.ref b), some (.int x1), some (.int x2), some (.int x3), some (.int n), some (.ref oo), some (.long (lJ (mrU k au av (lnIs w r k)))), none, some (.long (lJ (mrV k au av (lnIs w r k)))), none, some (.long (lJ (mrBU k bu bv))), none, some (.long (lJ (mrBV k bu bv))), none, some (.long (lJ (lnD w r au av k))), none, some (.long (lJ (-(lnR r bu bv k)))), none, o18, o19, o20, o21, o22, o23, o24, o25, o26, o27, o28, o29, o30, o31, o32, o33, o34, o35, o36, o37, o38] [] S F I2 J P) : mhV l K mL_go kc ks Φ 438 [some (.ref b), some (.int x1), some (.int x2), some (.int x3), some (.int n), some (.ref oo), some (.long (lJ au)), none, some (.long (lJ av)), none, some (.long (lJ bu)), none, some (.long (lJ bv)), none, some (.long (lJ tu)), none, some (.long (lJ td)), none, some (.int (nI r)), some (.long (lJ (3 * ((r / 2 % w : Nat) : Int)))), none, some (.long (lJ (3 * ((r / 2 / w : Nat) : Int)))), none, some (.int (nI (r % 2))), some (.int (lvW (lnF (lnD w r au av) (lnR r bu bv) 3))), some (.int (bI (lnF (lnD w r au av) (lnR r bu bv) 3).2)), some (.long (lJ (lvN (lnD w r au av) (lnF (lnD w r au av) (lnR r bu bv) 3)))), none, some (.long (lJ (lvD (lnR r bu bv) (lnF (lnD w r au av) (lnR r bu bv) 3)))), none, some (.long (lJ (lvL w r (lnF (lnD w r au av) (lnR r bu bv) 3)))), none, some (.int (nI 3)), o33, o34, o35, o36, o37, o38] [] S F I J P := by
  have hg := hO.2.1
  have hrm := gBd hg
  have hsd := (gT1 hg hr hk).2.1
  have eW : lvW (lnF (lnD w r au av) (lnR r bu bv) 3) = nI k := by unfold lvW; rw [hb]
  have eN : lvN (lnD w r au av) (lnF (lnD w r au av) (lnR r bu bv) 3) = lnD w r au av k := by unfold lvN; rw [hb]
  have eD : lvD (lnR r bu bv) (lnF (lnD w r au av) (lnR r bu bv) 3) = -(lnR r bu bv k) := by unfold lvD; rw [hb]
  have eL : lvL w r (lnF (lnD w r au av) (lnR r bu bv) 3) = lnIs w r k := by unfold lvL; rw [hb]
  rw [eW, eN, eD, eL]
  cases hp : (lnF (lnD w r au av) (lnR r bu bv) 3).2 with
  | true =>
    refine mh_iload_25 dL_go_438 (q := 440) rfl ?_
    refine mh_if_eq dL_go_440 (tgt := 445) (q := 443) rfl rfl (fun hh => absurd hh (by decide)) (fun _ => ?_)
    refine mh_iconst_0 dL_go_443 (q := 444) rfl ?_
    refine mh_ireturn dL_go_444 rfl rfl ?_
    exact hpost hp
  | false =>
    refine mh_iload_25 dL_go_438 (q := 440) rfl ?_
    refine mh_if_eq dL_go_440 (tgt := 445) (q := 443) rfl rfl (fun _ => ?_) (fun hh => absurd rfl hh)
    refine mh_aload_0 dL_go_445 (q := 446) rfl ?_
    refine mh_iload_18 dL_go_446 (q := 448) rfl ?_
    refine mh_iload_24 dL_go_448 (q := 450) rfl ?_
    refine mh_callS3 ca_L_go_450 (q := 453) rfl (by simp [Value.category]) ⟨Nat.zero_le _, Nat.zero_le _⟩ ?_
    refine sp_L_side hO hr hk ?_
    refine mh_istore_32 dL_go_453 (q := 455) rfl ?_
    refine mh_aload_5 dL_go_455 (q := 457) rfl ?_
    refine mh_iconst_0 dL_go_457 (q := 458) rfl ?_
    refine mh_dup2ir dL_go_458 (q := 459) rfl ?_
    refine mh_iald dL_go_459 (q := 460) rfl hU.1 (vp_in_nI (n := 0) (by decide) (by decide)) ?_
    rw [hU.2.1]
    refine mh_iconst_1 dL_go_460 (q := 461) rfl ?_
    refine mh_iadd dL_go_461 (q := 462) rfl ?_
    rw [show nI c + 1 = nI (c + 1) from nI_add c 1]
    refine mh_iast dL_go_462 (q := 463) rfl hU.1 (by decide) (vp_in_nI (n := 0) (by decide) (by decide)) ?_
    refine mh_aload_5 dL_go_463 (q := 465) rfl ?_
    refine mh_iconst_3 dL_go_465 (q := 466) rfl ?_
    refine mh_iload_32 dL_go_466 (q := 468) rfl ?_
    refine mh_iast dL_go_468 (q := 469) rfl hU.1 (by decide) (vp_in_nI (n := 3) (by decide) (by decide)) ?_
    refine mhV_gI (fun I2 => frO oo I I2 ∧ lwOf S I2 b w h kd ∧ lwOut S I2 oo (c + 1) m r (nI (gSide w h r k)) fl) ⟨frO.up.tr frO.up, hO.fr (frO.up.tr frO.up) hne, hU.u03 _⟩ (fun I hh => ?_)
    obtain ⟨hf, hO, hU⟩ := hh
    refine mh_lload_26 dL_go_469 (q := 471) rfl ?_
    refine mh_lstore_14 dL_go_471 (q := 473) rfl ?_
    refine mh_lload_28 dL_go_473 (q := 475) rfl ?_
    refine mh_lstore_16 dL_go_475 (q := 477) rfl ?_
    refine mh_aload_0 dL_go_477 (q := 478) rfl ?_
    refine mh_iconst_3 dL_go_478 (q := 479) rfl ?_
    refine mh_iload_32 dL_go_479 (q := 481) rfl ?_
    refine mh_iadd dL_go_481 (q := 482) rfl ?_
    rw [show (3 : Int32) + nI (gSide w h r k) = nI (3 + gSide w h r k) from nI_add 3 _]
    refine mh_iald dL_go_482 (q := 483) rfl hO.1 (vp_in_nI (by omega) (by omega)) ?_
    rw [hO.2.2.2.2.2 _ hsd]
    refine mh_if_le dL_go_483 (tgt := 512) (q := 486) rfl rfl (fun ck => ?_) (fun ck => ?_)
    · skip
      have ck0 : kd (gSide w h r k) = 0 := Int32.le_antisymm ck (hkd _ hsd)
      refine mh_aload_5 dL_go_512 (q := 514) rfl ?_
      refine mh_iconst_1 dL_go_514 (q := 515) rfl ?_
      refine mh_dup2ir dL_go_515 (q := 516) rfl ?_
      refine mh_iald dL_go_516 (q := 517) rfl hU.1 (vp_in_nI (n := 1) (by decide) (by decide)) ?_
      rw [hU.2.2.1]
      refine mh_iconst_1 dL_go_517 (q := 518) rfl ?_
      refine mh_iadd dL_go_518 (q := 519) rfl ?_
      rw [show nI m + 1 = nI (m + 1) from nI_add m 1]
      refine mh_iast dL_go_519 (q := 520) rfl hU.1 (by decide) (vp_in_nI (n := 1) (by decide) (by decide)) ?_
      rcases ln3 hk with rfl | rfl | rfl
      · skip
        refine mh_lload_6 dL_go_520 (q := 522) rfl ?_
        refine mh_lstore_33 dL_go_522 (q := 524) rfl ?_
        refine mh_lload_10 dL_go_524 (q := 526) rfl ?_
        refine mh_lstore_35 dL_go_526 (q := 528) rfl ?_
        refine mh_iload_24 dL_go_528 (q := 530) rfl ?_
        refine mh_if_ne dL_go_530 (tgt := 569) (q := 533) rfl rfl (fun hh => False.elim (by revert hh; decide)) (fun _ => ?_)
        refine mh_lload_6 dL_go_533 (q := 535) rfl ?_
        refine mh_lload_8 dL_go_535 (q := 537) rfl ?_
        refine mh_laddJ dL_go_537 (q := 538) rfl ?_
        refine mh_lload_30 dL_go_538 (q := 540) rfl ?_
        refine mh_lsubJ dL_go_540 (q := 541) rfl ?_
        refine mh_lstore_6 dL_go_541 (q := 543) rfl ?_
        refine mh_ldc2_wJ (z := 2) (by decide) dL_go_543 (q := 546) rfl wd_447 ?_
        refine mh_lload_30 dL_go_546 (q := 548) rfl ?_
        refine mh_lmulJ dL_go_548 (q := 549) rfl ?_
        refine mh_lload_8 dL_go_549 (q := 551) rfl ?_
        refine mh_lsubJ dL_go_551 (q := 552) rfl ?_
        refine mh_lstore_8 dL_go_552 (q := 554) rfl ?_
        refine mh_lload_10 dL_go_554 (q := 556) rfl ?_
        refine mh_lload_12 dL_go_556 (q := 558) rfl ?_
        refine mh_laddJ dL_go_558 (q := 559) rfl ?_
        refine mh_lstore_10 dL_go_559 (q := 561) rfl ?_
        refine mh_lload_12 dL_go_561 (q := 563) rfl ?_
        refine mh_lnegJ dL_go_563 (q := 564) rfl ?_
        refine mh_lstore_12 dL_go_564 (q := 566) rfl ?_
        refine mh_goto dL_go_566 (tgt := 635) rfl ?_
        refine mh_goto dL_go_635 (tgt := 76) rfl ?_
        exact hmir hp ck0 _ (hf.tr frO.up) hU.u1 _ _ _ _ _ _ _ _ _ _ _ _ _ _ _ _ _ _ _ _ _
      · skip
        refine mh_lload_6 dL_go_520 (q := 522) rfl ?_
        refine mh_lstore_33 dL_go_522 (q := 524) rfl ?_
        refine mh_lload_10 dL_go_524 (q := 526) rfl ?_
        refine mh_lstore_35 dL_go_526 (q := 528) rfl ?_
        refine mh_iload_24 dL_go_528 (q := 530) rfl ?_
        refine mh_if_ne dL_go_530 (tgt := 569) (q := 533) rfl rfl (fun _ => ?_) (fun hh => False.elim (by revert hh; decide))
        refine mh_iload_24 dL_go_569 (q := 571) rfl ?_
        refine mh_iconst_1 dL_go_571 (q := 572) rfl ?_
        refine mh_icmp_ne dL_go_572 (tgt := 611) (q := 575) rfl rfl (fun hh => False.elim (by revert hh; decide)) (fun _ => ?_)
        refine mh_lload_8 dL_go_575 (q := 577) rfl ?_
        refine mh_lload_6 dL_go_577 (q := 579) rfl ?_
        refine mh_laddJ dL_go_579 (q := 580) rfl ?_
        refine mh_lload_30 dL_go_580 (q := 582) rfl ?_
        refine mh_lsubJ dL_go_582 (q := 583) rfl ?_
        refine mh_lstore_8 dL_go_583 (q := 585) rfl ?_
        refine mh_ldc2_wJ (z := 2) (by decide) dL_go_585 (q := 588) rfl wd_447 ?_
        refine mh_lload_30 dL_go_588 (q := 590) rfl ?_
        refine mh_lmulJ dL_go_590 (q := 591) rfl ?_
        refine mh_lload_33 dL_go_591 (q := 593) rfl ?_
        refine mh_lsubJ dL_go_593 (q := 594) rfl ?_
        refine mh_lstore_6 dL_go_594 (q := 596) rfl ?_
        refine mh_lload_12 dL_go_596 (q := 598) rfl ?_
        refine mh_lload_10 dL_go_598 (q := 600) rfl ?_
        refine mh_laddJ dL_go_600 (q := 601) rfl ?_
        refine mh_lstore_12 dL_go_601 (q := 603) rfl ?_
        refine mh_lload_35 dL_go_603 (q := 605) rfl ?_
        refine mh_lnegJ dL_go_605 (q := 606) rfl ?_
        refine mh_lstore_10 dL_go_606 (q := 608) rfl ?_
        refine mh_goto dL_go_608 (tgt := 635) rfl ?_
        refine mh_goto dL_go_635 (tgt := 76) rfl ?_
        exact hmir hp ck0 _ (hf.tr frO.up) hU.u1 _ _ _ _ _ _ _ _ _ _ _ _ _ _ _ _ _ _ _ _ _
      · skip
        refine mh_lload_6 dL_go_520 (q := 522) rfl ?_
        refine mh_lstore_33 dL_go_522 (q := 524) rfl ?_
        refine mh_lload_10 dL_go_524 (q := 526) rfl ?_
        refine mh_lstore_35 dL_go_526 (q := 528) rfl ?_
        refine mh_iload_24 dL_go_528 (q := 530) rfl ?_
        refine mh_if_ne dL_go_530 (tgt := 569) (q := 533) rfl rfl (fun _ => ?_) (fun hh => False.elim (by revert hh; decide))
        refine mh_iload_24 dL_go_569 (q := 571) rfl ?_
        refine mh_iconst_1 dL_go_571 (q := 572) rfl ?_
        refine mh_icmp_ne dL_go_572 (tgt := 611) (q := 575) rfl rfl (fun _ => ?_) (fun hh => False.elim (by revert hh; decide))
        refine mh_lload_30 dL_go_611 (q := 613) rfl ?_
        refine mh_lload_8 dL_go_613 (q := 615) rfl ?_
        refine mh_lsubJ dL_go_615 (q := 616) rfl ?_
        refine mh_lstore_6 dL_go_616 (q := 618) rfl ?_
        refine mh_lload_30 dL_go_618 (q := 620) rfl ?_
        refine mh_lload_33 dL_go_620 (q := 622) rfl ?_
        refine mh_lsubJ dL_go_622 (q := 623) rfl ?_
        refine mh_lstore_8 dL_go_623 (q := 625) rfl ?_
        refine mh_lload_12 dL_go_625 (q := 627) rfl ?_
        refine mh_lnegJ dL_go_627 (q := 628) rfl ?_
        refine mh_lstore_10 dL_go_628 (q := 630) rfl ?_
        refine mh_lload_35 dL_go_630 (q := 632) rfl ?_
        refine mh_lnegJ dL_go_632 (q := 633) rfl ?_
        refine mh_lstore_12 dL_go_633 (q := 635) rfl ?_
        refine mh_goto dL_go_635 (tgt := 76) rfl ?_
        exact hmir hp ck0 _ (hf.tr frO.up) hU.u1 _ _ _ _ _ _ _ _ _ _ _ _ _ _ _ _ _ _ _ _ _
    · skip
      have ck0 : ¬ kd (gSide w h r k) = 0 := fun e => ck (by rw [e]; exact Int32.le_refl _)
      refine mh_aload_0 dL_go_486 (q := 487) rfl ?_
      refine mh_iload_18 dL_go_487 (q := 489) rfl ?_
      refine mh_iload_32 dL_go_489 (q := 491) rfl ?_
      refine mh_callS3 ca_L_go_491 (q := 494) rfl (by simp [Value.category]) ⟨Nat.zero_le _, Nat.zero_le _⟩ ?_
      refine sp_L_behind hO hr hk ?_
      rcases gB1 hO.2.1 hr hk with eb | ⟨q, hq, eb⟩ <;> rw [eb]
      · skip
        refine mh_istore_33 dL_go_494 (q := 496) rfl ?_
        refine mh_iload_33 dL_go_496 (q := 498) rfl ?_
        refine mh_if_ge dL_go_498 (tgt := 503) (q := 501) rfl rfl (fun hh => False.elim (by revert hh; decide)) (fun _ => ?_)
        refine mh_iconst_1 dL_go_501 (q := 502) rfl ?_
        refine mh_ireturn dL_go_502 rfl rfl ?_
        exact hout hp ck0 eb _ hf hU
      · skip
        refine mh_istore_33 dL_go_494 (q := 496) rfl ?_
        refine mh_iload_33 dL_go_496 (q := 498) rfl ?_
        refine mh_if_ge dL_go_498 (tgt := 503) (q := 501) rfl rfl (fun _ => ?_) (fun hh => absurd (nI_pos' (by omega)) hh)
        refine mh_aload_5 dL_go_503 (q := 505) rfl ?_
        refine mh_iconst_2 dL_go_505 (q := 506) rfl ?_
        refine mh_iload_33 dL_go_506 (q := 508) rfl ?_
        refine mh_iast dL_go_508 (q := 509) rfl hU.1 (by decide) (vp_in_nI (n := 2) (by decide) (by decide)) ?_
        refine mh_goto dL_go_509 (tgt := 76) rfl ?_
        exact hgo hp ck0 q hq eb _ (hf.tr frO.up) (hU.u2 q) _ _ _ _ _ _ _ _ _ _ _ _ _ _ _ _ _ _ _ _ _
