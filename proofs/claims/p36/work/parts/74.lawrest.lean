/-! the law: all turns, a side changed and changed back, what is refused -/
theorem sgIt_ok {w h : Nat} {kd : Nat → Int32} {p : Nat → Nat} (gk : gOk w h) : ∀ (n : Nat) (g : mhSg), sgOk w h p g → g.2.2.2.1 + n ≤ 1000 → sgOk w h p (sgIt w h kd p n g)
  | 0, g, hg, _ => hg
  | n + 1, g, hg, hc => by
    by_cases he : g.2.2.2.2.2.2 = 2 ∧ sgAh p g.1
    · rw [sgIt_s he.1 he.2]
      have h1 := (sgStep_c (w := w) (h := h) (kd := kd) (p := p) (g := g)).1
      exact sgIt_ok gk n _ (sgOk_step gk hg (by omega)) (by omega)
    · rw [sgIt_e he]
      exact hg
theorem upd_back {kd : Nat → Int32} {k : Nat} {v : Int32} : (fun x => if x = k then kd k else (fun x => if x = k then v else kd x) x) = kd := by
  funext x
  by_cases e : x = k
  · simp [e]
  · simp [e]
theorem so_k {j : Nat} (hj : j < 3) : mhSo (nI j) := by
  rcases (show j = 0 ∨ j = 1 ∨ j = 2 by omega) with rfl | rfl | rfl <;> unfold mhSo <;> decide
theorem so_A {v : Int32} (h : kdA v) : mhSo v := by
  rcases h with rfl | rfl | rfl <;> unfold mhSo <;> decide
theorem lwI.st {S : List mhS} {F : mhF} {I : mhI} {P : mhP} {w h nr : Nat} {kd ko : Nat → Int32} {rp : mhRp} (hI : lwI S F I P w h kd ko nr rp) {k : Nat} (hk : k < gSides w h) (v : Int32) : lwI S F (mhUI I 21 (nI (3 + k)) v) P w h kd (fun x => if x = k then v else ko x) nr rp := by
  have hg := gBd hI.g
  obtain ⟨h1, ⟨a1, a2, a3, a4⟩, h3, h4, h5, h6, h7⟩ := hI
  refine ⟨h1, ⟨a1, a2, a3, fun j hj => ⟨(a4 j hj).1, ?_⟩⟩, fun x hx => (mhUI_ne (by omega)).trans (h3 x hx), ⟨h4.1, h4.2.1, ?_, ?_, ?_, fun x hx => ?_⟩, h5, h6, h7⟩
  · obtain ⟨q1, q2, q3, q4, q5, q6, q7, q8, q9, q10, q11⟩ := (a4 j hj).2
    exact ⟨q1, q2, q3, q4, q5, q6, fun b hb y => (mhUI_ne (show 22 + 3 + b ≠ 21 by omega)).trans (q7 b hb y), (mhUI_ne (show 22 + 10 ≠ 21 by omega)).trans q8, (mhUI_ne (show 22 + 10 ≠ 21 by omega)).trans q9, (mhUI_ne (show 22 + 10 ≠ 21 by omega)).trans q10, q11⟩
  · unfold mhUI
    rw [if_neg (fun z => by have := (nI_eq (a := 0) (by omega) (by omega)).mp z.2; omega)]
    exact h4.2.2.1
  · unfold mhUI
    rw [if_neg (fun z => by have := (nI_eq (a := 1) (by omega) (by omega)).mp z.2; omega)]
    exact h4.2.2.2.1
  · unfold mhUI
    rw [if_neg (fun z => by have := (nI_eq (a := 2) (by omega) (by omega)).mp z.2; omega)]
    exact h4.2.2.2.2.1
  · unfold mhUI
    by_cases e : x = k
    · subst e
      simp
    · rw [if_neg (fun z => e (by have := (nI_eq (by omega) (by omega)).mp z.2; omega))]
      show _ = (if x = k then v else ko x)
      rw [if_neg e]
      exact h4.2.2.2.2.2 x hx
set_option maxHeartbeats 4000000 in
set_option maxRecDepth 100000 in
theorem lp_L_turn {l : Launch} {K : mhX} {Φ : mhQ} {J : mhJ} {w h : Nat} {kd : Nat → Int32} (hL : K.2.2.2.2.1 ≤ 260) (hkd : ∀ x, x < gSides w h → 0 ≤ kd x) (kend : ∀ S F I P nr rp kc ks (o3 o7 o8 o9 o10 o11 o12 o13 o14 o15 o16 o17 : Option Value), lwI S F I P w h kd kd nr rp → mhV l K mL_law kc ks Φ 635 [some (.retAddr 0), some (.ref 0), some (.ref 21), o3, some (.int (nI (gRooms w h))), some (.ref 33), some (.int (nI 14)), o7, o8, o9, o10, o11, o12, o13, o14, o15, o16, o17] [] S F I J P) : ∀ (m t nr : Nat) (rp : mhRp) (S : List mhS) (F : mhF) (I : mhI) (P : mhP) (kc ks : Nat) (o3 o7 o8 o9 o10 o11 o12 o13 o14 o15 o16 o17 : Option Value), t + m = 14 → nr ≤ t → lwI S F I P w h kd kd nr rp → m ≤ kc → 5 * m ≤ ks → mhV l K mL_law kc ks Φ 61 [some (.retAddr 0), some (.ref 0), some (.ref 21), o3, some (.int (nI (gRooms w h))), some (.ref 33), some (.int (nI t)), o7, o8, o9, o10, o11, o12, o13, o14, o15, o16, o17] [] S F I J P := by
  intro m
  induction m with
  | zero =>
    intro t nr rp S F I P kc ks o3 o7 o8 o9 o10 o11 o12 o13 o14 o15 o16 o17 htm hnt hI hkc hks
    obtain rfl : t = 14 := by omega
    refine mh_iload_6 dL_law_61 (q := 63) rfl ?_
    refine mh_bipush (v := 14) dL_law_63 (q := 65) rfl (by decide) ?_
    refine mh_icmp_ge dL_law_65 (tgt := 635) (q := 68) rfl rfl (fun _ => ?_) (fun hh => False.elim (by revert hh; decide))
    exact kend S F I P nr rp kc ks _ _ _ _ _ _ _ _ _ _ _ _ hI
  | succ m ih =>
    intro t nr rp S F I P kc ks o3 o7 o8 o9 o10 o11 o12 o13 o14 o15 o16 o17 htm hnt hI hkc hks
    have next : ∀ S F I P nr2 rp2 kc2 ks2, kc ≤ kc2 + 1 → ks ≤ ks2 + 5 → nr2 ≤ t + 1 → lwI S F I P w h kd kd nr2 rp2 → ∀ (o3 o7 o8 o9 o10 o11 o12 o13 o14 o15 o16 o17 : Option Value), mhV l K mL_law kc2 ks2 Φ 629 [some (.retAddr 0), some (.ref 0), some (.ref 21), o3, some (.int (nI (gRooms w h))), some (.ref 33), some (.int (nI t)), o7, o8, o9, o10, o11, o12, o13, o14, o15, o16, o17] [] S F I J P := by
      intro S F I P nr2 rp2 kc2 ks2 q1 q2 q3 hI o3 o7 o8 o9 o10 o11 o12 o13 o14 o15 o16 o17
      refine mh_iinc_6 (v := 1) dL_law_629 (q := 632) rfl (by decide) ?_
      refine mh_goto dL_law_632 (tgt := 61) rfl ?_
      rw [show nI t + 1 = nI (t + 1) from nI_add t 1]
      exact ih (t + 1) nr2 rp2 S F I P kc2 ks2 _ _ _ _ _ _ _ _ _ _ _ _ (by omega) (by omega) hI (by omega) (by omega)
    refine tA_L_law hI hL (by omega) (fun x r p q N o9 hr hb hN1 hN => ?_)
    refine tB_L_law hI hr (fun hz => ?_) (next S F I P nr rp kc ks (by omega) (by omega) (by omega) hI _ _ _ _ _ _ _ _ _ _ _ _)
    have ht := mhTurn_of hb hz
    have hgb := gBd hI.g
    have hrb : (sgIt w h kd (sgPa p q) 200 (sgSt r p q)).2.2.1 < 100 := by
      have := (sgIt_ok (kd := kd) hI.g 200 (sgSt r p q) (sgOk_st hb hr) (by show 0 + 200 ≤ 1000; omega)).2.1
      omega
    refine tC_L_law hI hr ht hz hkd hN1 hN (fun F I hI hU => ?_)
    refine tD_L_law hI hr ht hz hkd hN1 hN hU (fun F I o16 o17 hI => ?_)
    refine tE_L_law hI hr ht hz hkd (fun F I fl2 hI hU him => ?_)
    exact tF_L_law hI hr ht (by omega) hnt (by omega) (by omega) hrb hU him next
set_option maxHeartbeats 4000000 in
set_option maxRecDepth 100000 in
theorem tG_L_law {l : Launch} {K : mhX} {kc ks : Nat} {Φ : mhQ} {S : List mhS} {F : mhF} {I : mhI} {J : mhJ} {P : mhP} {w h nr : Nat} {kd : Nat → Int32} {rp : mhRp} {o3 o7 o8 o9 o10 o11 o12 o13 o14 o15 o16 o17 : Option Value} (hI : lwI S F I P w h kd kd nr rp) (hL : K.2.2.2.2.1 ≤ 260) (hkA : ∀ x, x < gSides w h → kdA (kd x)) (kk : ∀ (k : Nat) (v : Int32) I, k < gSides w h → mhSo v → lwI S F I P w h kd kd nr rp → ∀ (o9 o10 o11 o12 o13 o14 o15 o16 o17 : Option Value), mhV l K mL_law kc ks Φ 702 [some (.retAddr 0), some (.ref 0), some (.ref 21), o3, some (.int (nI (gRooms w h))), some (.ref 33), some (.int (nI k)), some (.int v), some (.int (nI 0)), o9, o10, o11, o12, o13, o14, o15, o16, o17] [] S F I J P) : mhV l K mL_law kc ks Φ 635 [some (.retAddr 0), some (.ref 0), some (.ref 21), o3, some (.int (nI (gRooms w h))), some (.ref 33), some (.int (nI 14)), o7, o8, o9, o10, o11, o12, o13, o14, o15, o16, o17] [] S F I J P := by
  have hg := gBd hI.g
  refine mh_aloadT_0 dL_law_635 (q := 636) rfl ?_
  refine mh_bipush (v := 20) dL_law_636 (q := 638) rfl (by decide) ?_
  refine mh_callS2 ca_L_law_638 (q := 641) rfl (by simp [Value.category]) ⟨Nat.zero_le _, Nat.zero_le _⟩ ?_
  refine sp_L_cell (j := 20) hL (by omega) (fun x1 => ?_)
  refine mh_aload_2 dL_law_641 (q := 642) rfl ?_
  refine mh_iconst_2 dL_law_642 (q := 643) rfl ?_
  refine mh_iald dL_law_643 (q := 644) rfl hI.of.1 (vp_in_nI (n := 2) (by decide) (by decide)) ?_
  rw [hI.of.2.2.2.2.1]
  refine mh_callS2 ca_L_law_644 (q := 647) rfl (by simp [Value.category]) ⟨Nat.zero_le _, Nat.zero_le _⟩ ?_
  refine sp_L_some (by omega) (by omega) (fun k hk => ?_)
  refine mh_istore_6 dL_law_647 (q := 649) rfl ?_
  refine mh_aloadT_0 dL_law_649 (q := 650) rfl ?_
  refine mh_bipush (v := 21) dL_law_650 (q := 652) rfl (by decide) ?_
  refine mh_callS2 ca_L_law_652 (q := 655) rfl (by simp [Value.category]) ⟨Nat.zero_le _, Nat.zero_le _⟩ ?_
  refine sp_L_cell (j := 21) hL (by omega) (fun x2 => ?_)
  refine mh_iconst_3 dL_law_655 (q := 656) rfl ?_
  refine mh_callS2 ca_L_law_656 (q := 659) rfl (by simp [Value.category]) ⟨Nat.zero_le _, Nat.zero_le _⟩ ?_
  refine sp_L_some (n := 3) (by omega) (by omega) (fun j3 hj3 => ?_)
  refine mh_istore_7 dL_law_659 (q := 661) rfl ?_
  refine mh_aload_1 dL_law_661 (q := 662) rfl ?_
  refine mh_iconst_0 dL_law_662 (q := 663) rfl ?_
  refine mh_iload_6 dL_law_663 (q := 665) rfl ?_
  refine mh_iload_7 dL_law_665 (q := 667) rfl ?_
  refine mh_callV3 ca_L_law_667 (shX6_0 hI.k6) (q := 670) rfl (by simp [Value.category]) ⟨Nat.zero_le _, Nat.zero_le _⟩ ?_
  refine lw_pane hI hk (so_k hj3) (fun I hI hu => ?_)
  refine mh_aload_2 dL_law_670 (q := 671) rfl ?_
  refine mh_iconst_3 dL_law_671 (q := 672) rfl ?_
  refine mh_iload_6 dL_law_672 (q := 674) rfl ?_
  refine mh_iadd dL_law_674 (q := 675) rfl ?_
  rw [show (3 : Int32) + nI k = nI (3 + k) from nI_add 3 k]
  refine mh_iald dL_law_675 (q := 676) rfl hI.of.1 (vp_in_nI (by omega) (by omega)) ?_
  rw [hI.of.2.2.2.2.2 k hk]
  refine mh_icmp_ne dL_law_676 (tgt := 697) (q := 679) rfl rfl (fun hh => absurd rfl hh) (fun _ => ?_)
  refine mh_aload_1 dL_law_679 (q := 680) rfl ?_
  refine mh_iconst_0 dL_law_680 (q := 681) rfl ?_
  refine mh_iload_6 dL_law_681 (q := 683) rfl ?_
  refine mh_aload_2 dL_law_683 (q := 684) rfl ?_
  refine mh_iconst_3 dL_law_684 (q := 685) rfl ?_
  refine mh_iload_6 dL_law_685 (q := 687) rfl ?_
  refine mh_iadd dL_law_687 (q := 688) rfl ?_
  rw [show (3 : Int32) + nI k = nI (3 + k) from nI_add 3 k]
  refine mh_iald dL_law_688 (q := 689) rfl hI.of.1 (vp_in_nI (by omega) (by omega)) ?_
  rw [hI.of.2.2.2.2.2 k hk]
  refine mh_callV3 ca_L_law_689 (shX6_0 hI.k6) (q := 692) rfl (by simp [Value.category]) ⟨Nat.zero_le _, Nat.zero_le _⟩ ?_
  refine lw_pane hI hk (so_A (hkA k hk)) (fun I hI hu => ?_)
  rw [upd_back] at hI
  refine mh_iload_7 dL_law_692 (q := 694) rfl ?_
  refine mh_icmp_eq dL_law_694 (tgt := 699) (q := 697) rfl rfl (fun _ => ?_) (fun hh => absurd (if_pos rfl) hh)
  refine mh_iconst_0 dL_law_699 (q := 700) rfl ?_
  refine mh_istore_8 dL_law_700 (q := 702) rfl ?_
  exact kk k (nI j3) I hk (so_k hj3) hI _ _ _ _ _ _ _ _ _
theorem bd2 {k1 k2 : Nat} (h1 : k1 < 25) (h2 : k2 < 12) : sgBd (nI k1 - 12) (nI (1 + k2)) := by
  have a := sub_bd (k := k1) (M := 12) (by omega) (by omega)
  refine ⟨a, Int32.le_trans (by decide) (nI_pos' (by omega)), ?_⟩
  rw [show (60 : Int32) = nI 60 from rfl, nI_leI (by omega) (by omega)]
  omega
set_option maxHeartbeats 4000000 in
set_option maxRecDepth 100000 in
theorem lp_L_back {l : Launch} {K : mhX} {kc ks : Nat} {Φ : mhQ} {J : mhJ} {S : List mhS} {P : mhP} {w h nr : Nat} {kd : Nat → Int32} {rp : mhRp} {k : Nat} {v : Int32} {o3 : Option Value} (hL : K.2.2.2.2.1 ≤ 260) (hkA : ∀ x, x < gSides w h → kdA (kd x)) (hk : k < gSides w h) (hv : mhSo v) (kk : ∀ F I (o8 o9 o10 o11 o12 o13 o14 o15 o16 o17 : Option Value), lwI S F I P w h kd kd nr rp → mhV l K mL_law kc ks Φ 923 [some (.retAddr 0), some (.ref 0), some (.ref 21), o3, some (.int (nI (gRooms w h))), some (.ref 33), some (.int (nI k)), some (.int v), o8, o9, o10, o11, o12, o13, o14, o15, o16, o17] [] S F I J P) : ∀ (m t : Nat) (F : mhF) (I : mhI) (o9 o10 o11 o12 o13 o14 o15 o16 o17 : Option Value), t + m = 6 → lwI S F I P w h kd kd nr rp → mhV l K mL_law kc ks Φ 702 [some (.retAddr 0), some (.ref 0), some (.ref 21), o3, some (.int (nI (gRooms w h))), some (.ref 33), some (.int (nI k)), some (.int v), some (.int (nI t)), o9, o10, o11, o12, o13, o14, o15, o16, o17] [] S F I J P := by
  have hkd1 : ∀ x, x < gSides w h → 0 ≤ (fun x => if x = k then v else kd x) x := by
    intro x hx
    by_cases e : x = k
    · simp only [e, if_true]; exact hv.1
    · simp only [e, if_false]; exact (so_A (hkA x hx)).1
  intro m
  induction m with
  | zero =>
    intro t F I o9 o10 o11 o12 o13 o14 o15 o16 o17 htm hI
    obtain rfl : t = 6 := by omega
    refine mh_iload_8 dL_law_702 (q := 704) rfl ?_
    refine mh_bipush (v := 6) dL_law_704 (q := 706) rfl (by decide) ?_
    refine mh_icmp_ge dL_law_706 (tgt := 923) (q := 709) rfl rfl (fun _ => ?_) (fun hh => False.elim (by revert hh; decide))
    exact kk F I _ _ _ _ _ _ _ _ _ _ hI
  | succ m ih =>
    intro t F I o9 o10 o11 o12 o13 o14 o15 o16 o17 htm hI
    have hg := gBd hI.g
    refine mh_iload_8 dL_law_702 (q := 704) rfl ?_
    refine mh_bipush (v := 6) dL_law_704 (q := 706) rfl (by decide) ?_
    refine mh_icmp_ge dL_law_706 (tgt := 923) (q := 709) rfl rfl (fun hh => absurd hh (by rw [show (6 : Int32) = nI 6 from rfl, nI_leI (by omega) (by omega)]; omega)) (fun _ => ?_)
    refine mh_aloadT_0 dL_law_709 (q := 710) rfl ?_
    refine mh_bipush (v := 22) dL_law_710 (q := 712) rfl (by decide) ?_
    refine mh_iload_8 dL_law_712 (q := 714) rfl ?_
    refine mh_iadd dL_law_714 (q := 715) rfl ?_
    rw [show (22 : Int32) + nI t = nI (22 + t) from nI_add 22 t]
    refine mh_callS2 ca_L_law_715 (q := 718) rfl (by simp [Value.category]) ⟨Nat.zero_le _, Nat.zero_le _⟩ ?_
    refine sp_L_cell hL (by omega) (fun x => ?_)
    refine mh_istore_9 dL_law_718 (q := 720) rfl ?_
    refine mh_iload_9 dL_law_720 (q := 722) rfl ?_
    refine mh_iload_4 dL_law_722 (q := 724) rfl ?_
    refine mh_callS2 ca_L_law_724 (q := 727) rfl (by simp [Value.category]) ⟨Nat.zero_le _, Nat.zero_le _⟩ ?_
    refine sp_L_some (by omega) (by omega) (fun r hr => ?_)
    refine mh_istore_10 dL_law_727 (q := 729) rfl ?_
    refine mh_iload_9 dL_law_729 (q := 731) rfl ?_
    refine mh_iconst_5 dL_law_731 (q := 732) rfl ?_
    refine mh_ishr dL_law_732 (q := 733) rfl ?_
    refine mh_bipush (v := 25) dL_law_733 (q := 735) rfl (by decide) ?_
    refine mh_callS2 ca_L_law_735 (q := 738) rfl (by simp [Value.category]) ⟨Nat.zero_le _, Nat.zero_le _⟩ ?_
    refine sp_L_some (n := 25) (by omega) (by omega) (fun k1 hk1 => ?_)
    refine mh_bipush (v := 12) dL_law_738 (q := 740) rfl (by decide) ?_
    refine mh_isub dL_law_740 (q := 741) rfl ?_
    refine mh_istore_11 dL_law_741 (q := 743) rfl ?_
    refine mh_iconst_1 dL_law_743 (q := 744) rfl ?_
    refine mh_iload_9 dL_law_744 (q := 746) rfl ?_
    refine mh_bipush (v := 10) dL_law_746 (q := 748) rfl (by decide) ?_
    refine mh_ishr dL_law_748 (q := 749) rfl ?_
    refine mh_bipush (v := 12) dL_law_749 (q := 751) rfl (by decide) ?_
    refine mh_callS2 ca_L_law_751 (q := 754) rfl (by simp [Value.category]) ⟨Nat.zero_le _, Nat.zero_le _⟩ ?_
    refine sp_L_some (n := 12) (by omega) (by omega) (fun k2 hk2 => ?_)
    refine mh_iadd dL_law_754 (q := 755) rfl ?_
    rw [show (1 : Int32) + nI k2 = nI (1 + k2) from nI_add 1 k2]
    have hb : sgBd (nI k1 - 12) (nI (1 + k2)) := bd2 hk1 hk2
    have hz : ¬ (nI k1 - 12 = 0 ∧ nI (1 + k2) = 0) := fun e => nI_ne0 (by omega) (by omega) e.2
    have ht := mhTurn_of hb hz
    refine mh_istore_12 dL_law_755 (q := 757) rfl ?_
    refine mh_aload_1 dL_law_757 (q := 758) rfl ?_
    refine mh_iconst_0 dL_law_758 (q := 759) rfl ?_
    refine mh_iload_6 dL_law_759 (q := 761) rfl ?_
    refine mh_iload_7 dL_law_761 (q := 763) rfl ?_
    refine mh_callV3 ca_L_law_763 (shX6_0 hI.k6) (q := 766) rfl (by simp [Value.category]) ⟨Nat.zero_le _, Nat.zero_le _⟩ ?_
    refine lw_pane hI hk hv (fun I hI hu => ?_)
    refine mh_aload_2 dL_law_766 (q := 767) rfl ?_
    refine mh_iconst_3 dL_law_767 (q := 768) rfl ?_
    refine mh_iload_6 dL_law_768 (q := 770) rfl ?_
    refine mh_iadd dL_law_770 (q := 771) rfl ?_
    rw [show (3 : Int32) + nI k = nI (3 + k) from nI_add 3 k]
    refine mh_iald dL_law_771 (q := 772) rfl hI.of.1 (vp_in_nI (by omega) (by omega)) ?_
    rw [hI.of.2.2.2.2.2 k hk]
    refine mh_icmp_eq dL_law_772 (tgt := 777) (q := 775) rfl rfl (fun _ => ?_) (fun hh => absurd rfl hh)
    refine mh_aload_2 dL_law_777 (q := 778) rfl ?_
    refine mh_iconst_3 dL_law_778 (q := 779) rfl ?_
    refine mh_iload_6 dL_law_779 (q := 781) rfl ?_
    refine mh_iadd dL_law_781 (q := 782) rfl ?_
    rw [show (3 : Int32) + nI k = nI (3 + k) from nI_add 3 k]
    refine mh_iald dL_law_782 (q := 783) rfl hI.of.1 (vp_in_nI (by omega) (by omega)) ?_
    rw [hI.of.2.2.2.2.2 k hk]
    refine mh_istore_13 dL_law_783 (q := 785) rfl ?_
    refine mh_aload_2 dL_law_785 (q := 786) rfl ?_
    refine mh_iconst_3 dL_law_786 (q := 787) rfl ?_
    refine mh_iload_6 dL_law_787 (q := 789) rfl ?_
    refine mh_iadd dL_law_789 (q := 790) rfl ?_
    rw [show (3 : Int32) + nI k = nI (3 + k) from nI_add 3 k]
    refine mh_iload_7 dL_law_790 (q := 792) rfl ?_
    refine mh_iast dL_law_792 (q := 793) rfl hI.of.1 (by decide) (vp_in_nI (by omega) (by omega)) ?_
    refine mhV_gI (fun I2 => lwI S F I2 P w h (fun x => if x = k then v else kd x) (fun x => if x = k then v else kd x) nr rp) (hI.st hk v) (fun I hI => ?_)
    refine mh_aload_2 dL_law_793 (q := 794) rfl ?_
    refine mh_iload_10 dL_law_794 (q := 796) rfl ?_
    refine mh_iload_11 dL_law_796 (q := 798) rfl ?_
    refine mh_iload_12 dL_law_798 (q := 800) rfl ?_
    refine mh_bipush (v := 40) dL_law_800 (q := 802) rfl (by decide) ?_
    refine mh_aload_5 dL_law_802 (q := 804) rfl ?_
    refine mh_callS6 ca_L_law_804 (q := 807) rfl (by simp [Value.category]) ⟨Nat.zero_le _, Nat.zero_le _⟩ ?_
    refine sp_L_go hI.of hI.out (by decide) hr hkd1 hb hz (N := 40) (by omega) (fun I hf hU => ?_)
    have hI := hI.fo hf
    refine mh_istore_14 dL_law_807 (q := 809) rfl ?_
    refine mh_aload_1 dL_law_809 (q := 810) rfl ?_
    refine mh_iconst_0 dL_law_810 (q := 811) rfl ?_
    refine mh_iload_10 dL_law_811 (q := 813) rfl ?_
    refine mh_iload_11 dL_law_813 (q := 815) rfl ?_
    refine mh_iload_12 dL_law_815 (q := 817) rfl ?_
    refine mh_bipush (v := 40) dL_law_817 (q := 819) rfl (by decide) ?_
    refine mh_iconst_0 dL_law_819 (q := 820) rfl ?_
    refine mh_callV6 ca_L_law_820 (shX6_0 hI.k6) (q := 823) rfl (by simp [Value.category]) ⟨Nat.zero_le _, Nat.zero_le _⟩ ?_
    refine lw_seen (N := 40) hI hr ht (by omega) (by omega) (by decide) (fun F I hI hu => ?_)
    have hU := hU.keep hu
    refine mh_iload_14 dL_law_823 (q := 825) rfl ?_
    refine mh_icmp_ne dL_law_825 (tgt := 891) (q := 828) rfl rfl (fun hh => absurd (mhSeR_0 _) hh) (fun _ => ?_)
    refine mh_aload_1 dL_law_828 (q := 829) rfl ?_
    refine mh_iconst_0 dL_law_829 (q := 830) rfl ?_
    refine mh_iload_10 dL_law_830 (q := 832) rfl ?_
    refine mh_iload_11 dL_law_832 (q := 834) rfl ?_
    refine mh_iload_12 dL_law_834 (q := 836) rfl ?_
    refine mh_bipush (v := 40) dL_law_836 (q := 838) rfl (by decide) ?_
    refine mh_iconst_1 dL_law_838 (q := 839) rfl ?_
    refine mh_callV6 ca_L_law_839 (shX6_0 hI.k6) (q := 842) rfl (by simp [Value.category]) ⟨Nat.zero_le _, Nat.zero_le _⟩ ?_
    refine lw_seen (N := 40) hI hr ht (by omega) (by omega) (by decide) (fun F I hI hu => ?_)
    have hU := hU.keep hu
    refine mh_aload_5 dL_law_842 (q := 844) rfl ?_
    refine mh_iconst_0 dL_law_844 (q := 845) rfl ?_
    refine mh_iald dL_law_845 (q := 846) rfl hU.1 (vp_in_nI (n := 0) (by decide) (by decide)) ?_
    rw [hU.2.1]
    refine mh_icmp_ne dL_law_846 (tgt := 891) (q := 849) rfl rfl (fun hh => absurd (mhSeR_1 _) hh) (fun _ => ?_)
    refine mh_aload_1 dL_law_849 (q := 850) rfl ?_
    refine mh_iconst_0 dL_law_850 (q := 851) rfl ?_
    refine mh_iload_10 dL_law_851 (q := 853) rfl ?_
    refine mh_iload_11 dL_law_853 (q := 855) rfl ?_
    refine mh_iload_12 dL_law_855 (q := 857) rfl ?_
    refine mh_bipush (v := 40) dL_law_857 (q := 859) rfl (by decide) ?_
    refine mh_iconst_2 dL_law_859 (q := 860) rfl ?_
    refine mh_callV6 ca_L_law_860 (shX6_0 hI.k6) (q := 863) rfl (by simp [Value.category]) ⟨Nat.zero_le _, Nat.zero_le _⟩ ?_
    refine lw_seen (N := 40) hI hr ht (by omega) (by omega) (by decide) (fun F I hI hu => ?_)
    have hU := hU.keep hu
    refine mh_aload_5 dL_law_863 (q := 865) rfl ?_
    refine mh_iconst_1 dL_law_865 (q := 866) rfl ?_
    refine mh_iald dL_law_866 (q := 867) rfl hU.1 (vp_in_nI (n := 1) (by decide) (by decide)) ?_
    rw [hU.2.2.1]
    refine mh_icmp_ne dL_law_867 (tgt := 891) (q := 870) rfl rfl (fun hh => absurd (mhSeR_2 _) hh) (fun _ => ?_)
    refine mh_aload_1 dL_law_870 (q := 871) rfl ?_
    refine mh_iconst_0 dL_law_871 (q := 872) rfl ?_
    refine mh_iload_10 dL_law_872 (q := 874) rfl ?_
    refine mh_iload_11 dL_law_874 (q := 876) rfl ?_
    refine mh_iload_12 dL_law_876 (q := 878) rfl ?_
    refine mh_bipush (v := 40) dL_law_878 (q := 880) rfl (by decide) ?_
    refine mh_iconst_3 dL_law_880 (q := 881) rfl ?_
    refine mh_callV6 ca_L_law_881 (shX6_0 hI.k6) (q := 884) rfl (by simp [Value.category]) ⟨Nat.zero_le _, Nat.zero_le _⟩ ?_
    refine lw_seen (N := 40) hI hr ht (by omega) (by omega) (by decide) (fun F I hI hu => ?_)
    have hU := hU.keep hu
    refine mh_aload_5 dL_law_884 (q := 886) rfl ?_
    refine mh_iconst_2 dL_law_886 (q := 887) rfl ?_
    refine mh_iald dL_law_887 (q := 888) rfl hU.1 (vp_in_nI (n := 2) (by decide) (by decide)) ?_
    rw [hU.2.2.2.1]
    refine mh_icmp_eq dL_law_888 (tgt := 893) (q := 891) rfl rfl (fun _ => ?_) (fun hh => absurd (mhSeR_3 _) hh)
    refine mh_aload_2 dL_law_893 (q := 894) rfl ?_
    refine mh_iconst_3 dL_law_894 (q := 895) rfl ?_
    refine mh_iload_6 dL_law_895 (q := 897) rfl ?_
    refine mh_iadd dL_law_897 (q := 898) rfl ?_
    rw [show (3 : Int32) + nI k = nI (3 + k) from nI_add 3 k]
    refine mh_iload_13 dL_law_898 (q := 900) rfl ?_
    refine mh_iast dL_law_900 (q := 901) rfl hI.of.1 (by decide) (vp_in_nI (by omega) (by omega)) ?_
    refine mhV_gI (fun I2 => lwI S F I2 P w h (fun x => if x = k then v else kd x) kd nr rp) (by have hq := hI.st hk (kd k); rw [upd_back] at hq; exact hq) (fun I hI => ?_)
    refine mh_aload_1 dL_law_901 (q := 902) rfl ?_
    refine mh_iconst_0 dL_law_902 (q := 903) rfl ?_
    refine mh_iload_6 dL_law_903 (q := 905) rfl ?_
    refine mh_iload_13 dL_law_905 (q := 907) rfl ?_
    refine mh_callV3 ca_L_law_907 (shX6_0 hI.k6) (q := 910) rfl (by simp [Value.category]) ⟨Nat.zero_le _, Nat.zero_le _⟩ ?_
    refine lw_pane hI hk (so_A (hkA k hk)) (fun I hI hu => ?_)
    rw [upd_back] at hI
    refine mh_iload_7 dL_law_910 (q := 912) rfl ?_
    refine mh_icmp_eq dL_law_912 (tgt := 917) (q := 915) rfl rfl (fun _ => ?_) (fun hh => absurd (if_pos rfl) hh)
    refine mh_iinc_8 (v := 1) dL_law_917 (q := 920) rfl (by decide) ?_
    refine mh_goto dL_law_920 (tgt := 702) rfl ?_
    rw [show nI t + 1 = nI (t + 1) from nI_add t 1]
    exact ih (t + 1) F I _ _ _ _ _ _ _ _ _ (by omega) hI
set_option maxHeartbeats 4000000 in
set_option maxRecDepth 100000 in
theorem tI_L_law {l : Launch} {K : mhX} {kc ks : Nat} {Φ : mhQ} {S : List mhS} {F : mhF} {I : mhI} {J : mhJ} {P : mhP} {w h nr : Nat} {kd : Nat → Int32} {rp : mhRp} {k : Nat} {v : Int32} {o3 o8 o9 o10 o11 o12 o13 o14 o15 o16 o17 : Option Value} (hI : lwI S F I P w h kd kd nr rp) (hΦ : ∀ (S : List mhS) (F : mhF) (I : mhI) (J : mhJ) (P : mhP), Φ (some (.int 1)) S F I J P) : mhV l K mL_law kc ks Φ 923 [some (.retAddr 0), some (.ref 0), some (.ref 21), o3, some (.int (nI (gRooms w h))), some (.ref 33), some (.int (nI k)), some (.int v), o8, o9, o10, o11, o12, o13, o14, o15, o16, o17] [] S F I J P := by
  have hg := gBd hI.g
  have t10 : mhTurn 1 0 := ⟨by decide, by decide, Or.inl (by decide)⟩
  refine mh_aload_1 dL_law_923 (q := 924) rfl ?_
  refine mh_iconst_0 dL_law_924 (q := 925) rfl ?_
  refine mh_iload_4 dL_law_925 (q := 927) rfl ?_
  refine mh_iconst_1 dL_law_927 (q := 928) rfl ?_
  refine mh_iconst_0 dL_law_928 (q := 929) rfl ?_
  refine mh_iconst_1 dL_law_929 (q := 930) rfl ?_
  refine mh_iconst_0 dL_law_930 (q := 931) rfl ?_
  refine mh_callV6 ca_L_law_931 (shX6_0 hI.k6) (q := 934) rfl (by simp [Value.category]) ⟨Nat.zero_le _, Nat.zero_le _⟩ ?_
  refine lw_seenN hI (fun ⟨j, hj, e1, r, hr, e2⟩ => by have hr2 : r < gRooms w h := hr; have := (nI_eq (by omega) (by omega)).mp e2; omega) ?_
  refine mh_iconst_m1 dL_law_934 (q := 935) rfl ?_
  refine mh_icmp_ne dL_law_935 (tgt := 1091) (q := 938) rfl rfl (fun hh => False.elim (by revert hh; decide)) (fun _ => ?_)
  refine mh_aload_1 dL_law_938 (q := 939) rfl ?_
  refine mh_iconst_1 dL_law_939 (q := 940) rfl ?_
  refine mh_iconst_0 dL_law_940 (q := 941) rfl ?_
  refine mh_iconst_1 dL_law_941 (q := 942) rfl ?_
  refine mh_iconst_0 dL_law_942 (q := 943) rfl ?_
  refine mh_iconst_1 dL_law_943 (q := 944) rfl ?_
  refine mh_iconst_0 dL_law_944 (q := 945) rfl ?_
  refine mh_callV6 ca_L_law_945 (shX6_0 hI.k6) (q := 948) rfl (by simp [Value.category]) ⟨Nat.zero_le _, Nat.zero_le _⟩ ?_
  refine lw_seenN hI (fun ⟨j, hj, e1, r, hr, e2⟩ => by cases (show j = 0 by omega); exact absurd e1 (by decide)) ?_
  refine mh_iconst_m1 dL_law_948 (q := 949) rfl ?_
  refine mh_icmp_ne dL_law_949 (tgt := 1091) (q := 952) rfl rfl (fun hh => False.elim (by revert hh; decide)) (fun _ => ?_)
  refine mh_aload_1 dL_law_952 (q := 953) rfl ?_
  refine mh_iconst_0 dL_law_953 (q := 954) rfl ?_
  refine mh_iconst_0 dL_law_954 (q := 955) rfl ?_
  refine mh_bipush (v := 61) dL_law_955 (q := 957) rfl (by decide) ?_
  refine mh_iconst_0 dL_law_957 (q := 958) rfl ?_
  refine mh_iconst_1 dL_law_958 (q := 959) rfl ?_
  refine mh_iconst_0 dL_law_959 (q := 960) rfl ?_
  refine mh_callV6 ca_L_law_960 (shX6_0 hI.k6) (q := 963) rfl (by simp [Value.category]) ⟨Nat.zero_le _, Nat.zero_le _⟩ ?_
  refine lw_seenB (r := 0) hI (by omega) (fun e => absurd e.1.1.2 (by decide)) ?_
  refine mh_bipush (v := (-2)) dL_law_963 (q := 965) rfl (by decide) ?_
  refine mh_icmp_ne dL_law_965 (tgt := 1091) (q := 968) rfl rfl (fun hh => False.elim (by revert hh; decide)) (fun _ => ?_)
  refine mh_aload_1 dL_law_968 (q := 969) rfl ?_
  refine mh_iconst_0 dL_law_969 (q := 970) rfl ?_
  refine mh_iconst_0 dL_law_970 (q := 971) rfl ?_
  refine mh_iconst_0 dL_law_971 (q := 972) rfl ?_
  refine mh_bipush (v := (-61)) dL_law_972 (q := 974) rfl (by decide) ?_
  refine mh_iconst_1 dL_law_974 (q := 975) rfl ?_
  refine mh_iconst_0 dL_law_975 (q := 976) rfl ?_
  refine mh_callV6 ca_L_law_976 (shX6_0 hI.k6) (q := 979) rfl (by simp [Value.category]) ⟨Nat.zero_le _, Nat.zero_le _⟩ ?_
  refine lw_seenB (r := 0) hI (by omega) (fun e => absurd e.1.2.1.1 (by decide)) ?_
  refine mh_bipush (v := (-2)) dL_law_979 (q := 981) rfl (by decide) ?_
  refine mh_icmp_ne dL_law_981 (tgt := 1091) (q := 984) rfl rfl (fun hh => False.elim (by revert hh; decide)) (fun _ => ?_)
  refine mh_aload_1 dL_law_984 (q := 985) rfl ?_
  refine mh_iconst_0 dL_law_985 (q := 986) rfl ?_
  refine mh_iconst_0 dL_law_986 (q := 987) rfl ?_
  refine mh_iconst_1 dL_law_987 (q := 988) rfl ?_
  refine mh_iconst_0 dL_law_988 (q := 989) rfl ?_
  refine mh_iconst_0 dL_law_989 (q := 990) rfl ?_
  refine mh_iconst_0 dL_law_990 (q := 991) rfl ?_
  refine mh_callV6 ca_L_law_991 (shX6_0 hI.k6) (q := 994) rfl (by simp [Value.category]) ⟨Nat.zero_le _, Nat.zero_le _⟩ ?_
  refine lw_seenB (r := 0) hI (by omega) (fun e => absurd e.2.1.1 (by decide)) ?_
  refine mh_bipush (v := (-2)) dL_law_994 (q := 996) rfl (by decide) ?_
  refine mh_icmp_ne dL_law_996 (tgt := 1091) (q := 999) rfl rfl (fun hh => False.elim (by revert hh; decide)) (fun _ => ?_)
  refine mh_aload_1 dL_law_999 (q := 1000) rfl ?_
  refine mh_iconst_0 dL_law_1000 (q := 1001) rfl ?_
  refine mh_iconst_0 dL_law_1001 (q := 1002) rfl ?_
  refine mh_iconst_1 dL_law_1002 (q := 1003) rfl ?_
  refine mh_iconst_0 dL_law_1003 (q := 1004) rfl ?_
  refine mh_sipush (v := 201) dL_law_1004 (q := 1007) rfl (by decide) ?_
  refine mh_iconst_0 dL_law_1007 (q := 1008) rfl ?_
  refine mh_callV6 ca_L_law_1008 (shX6_0 hI.k6) (q := 1011) rfl (by simp [Value.category]) ⟨Nat.zero_le _, Nat.zero_le _⟩ ?_
  refine lw_seenB (r := 0) hI (by omega) (fun e => absurd e.2.1.2 (by decide)) ?_
  refine mh_bipush (v := (-2)) dL_law_1011 (q := 1013) rfl (by decide) ?_
  refine mh_icmp_ne dL_law_1013 (tgt := 1091) (q := 1016) rfl rfl (fun hh => False.elim (by revert hh; decide)) (fun _ => ?_)
  refine mh_aload_1 dL_law_1016 (q := 1017) rfl ?_
  refine mh_iconst_0 dL_law_1017 (q := 1018) rfl ?_
  refine mh_iconst_0 dL_law_1018 (q := 1019) rfl ?_
  refine mh_iconst_1 dL_law_1019 (q := 1020) rfl ?_
  refine mh_iconst_0 dL_law_1020 (q := 1021) rfl ?_
  refine mh_iconst_1 dL_law_1021 (q := 1022) rfl ?_
  refine mh_iconst_4 dL_law_1022 (q := 1023) rfl ?_
  refine mh_callV6 ca_L_law_1023 (shX6_0 hI.k6) (q := 1026) rfl (by simp [Value.category]) ⟨Nat.zero_le _, Nat.zero_le _⟩ ?_
  refine lw_seenB (r := 0) hI (by omega) (fun e => absurd e.2.2.2 (by decide)) ?_
  refine mh_bipush (v := (-2)) dL_law_1026 (q := 1028) rfl (by decide) ?_
  refine mh_icmp_ne dL_law_1028 (tgt := 1091) (q := 1031) rfl rfl (fun hh => False.elim (by revert hh; decide)) (fun _ => ?_)
  refine mh_aload_1 dL_law_1031 (q := 1032) rfl ?_
  refine mh_iconst_0 dL_law_1032 (q := 1033) rfl ?_
  refine mh_iconst_0 dL_law_1033 (q := 1034) rfl ?_
  refine mh_iconst_1 dL_law_1034 (q := 1035) rfl ?_
  refine mh_iconst_0 dL_law_1035 (q := 1036) rfl ?_
  refine mh_iconst_m1 dL_law_1036 (q := 1037) rfl ?_
  refine mh_callV5 ca_L_law_1037 (shX6_0 hI.k6) (q := 1040) rfl (by simp [Value.category]) ⟨Nat.zero_le _, Nat.zero_le _⟩ ?_
  refine lw_metB (r := 0) hI (by omega) (fun e => absurd e.2 (by decide)) (by decide) ?_
  refine mh_bipush (v := (-2)) dL_law_1040 (q := 1042) rfl (by decide) ?_
  refine mh_icmp_ne dL_law_1042 (tgt := 1091) (q := 1045) rfl rfl (fun hh => False.elim (by revert hh; decide)) (fun _ => ?_)
  refine mh_aload_1 dL_law_1045 (q := 1046) rfl ?_
  refine mh_iconst_0 dL_law_1046 (q := 1047) rfl ?_
  refine mh_iconst_0 dL_law_1047 (q := 1048) rfl ?_
  refine mh_iconst_1 dL_law_1048 (q := 1049) rfl ?_
  refine mh_iconst_0 dL_law_1049 (q := 1050) rfl ?_
  refine mh_sipush (v := 200) dL_law_1050 (q := 1053) rfl (by decide) ?_
  refine mh_callV5 ca_L_law_1053 (shX6_0 hI.k6) (q := 1056) rfl (by simp [Value.category]) ⟨Nat.zero_le _, Nat.zero_le _⟩ ?_
  refine lw_metF (r := 0) hI (by omega) t10 (by decide) ?_
  refine mh_bipush (v := (-9)) dL_law_1056 (q := 1058) rfl (by decide) ?_
  refine mh_icmp_ne dL_law_1058 (tgt := 1091) (q := 1061) rfl rfl (fun hh => False.elim (by revert hh; decide)) (fun _ => ?_)
  refine mh_aload_1 dL_law_1061 (q := 1062) rfl ?_
  refine mh_iconst_0 dL_law_1062 (q := 1063) rfl ?_
  refine mh_iconst_m1 dL_law_1063 (q := 1064) rfl ?_
  refine mh_iconst_1 dL_law_1064 (q := 1065) rfl ?_
  refine mh_iconst_1 dL_law_1065 (q := 1066) rfl ?_
  refine mh_callV4 ca_L_law_1066 (shX6_0 hI.k6) (q := 1069) rfl (by simp [Value.category]) ⟨Nat.zero_le _, Nat.zero_le _⟩ ?_
  refine lw_imageN hI (fun ⟨j, hj, e1, r, hr, e2⟩ => by have hq := nI_pos' (show r < 2 ^ 31 by have : r < gRooms w h := hr; omega); rw [← e2] at hq; exact absurd hq (by decide)) ?_
  refine mh_iconst_m1 dL_law_1069 (q := 1070) rfl ?_
  refine mh_icmp_ne dL_law_1070 (tgt := 1091) (q := 1073) rfl rfl (fun hh => False.elim (by revert hh; decide)) (fun _ => ?_)
  refine mh_aload_1 dL_law_1073 (q := 1074) rfl ?_
  refine mh_iconst_0 dL_law_1074 (q := 1075) rfl ?_
  refine mh_iconst_0 dL_law_1075 (q := 1076) rfl ?_
  refine mh_bipush (v := 61) dL_law_1076 (q := 1078) rfl (by decide) ?_
  refine mh_iconst_1 dL_law_1078 (q := 1079) rfl ?_
  refine mh_callV4 ca_L_law_1079 (shX6_0 hI.k6) (q := 1082) rfl (by simp [Value.category]) ⟨Nat.zero_le _, Nat.zero_le _⟩ ?_
  refine lw_imageB (r := 0) hI (by omega) (fun e => absurd e.1.2 (by decide)) ?_
  refine mh_bipush (v := (-2)) dL_law_1082 (q := 1084) rfl (by decide) ?_
  refine mh_icmp_ne dL_law_1084 (tgt := 1091) (q := 1087) rfl rfl (fun hh => False.elim (by revert hh; decide)) (fun _ => ?_)
  refine mh_iconst_1 dL_law_1087 (q := 1088) rfl ?_
  refine mh_goto dL_law_1088 (tgt := 1092) rfl ?_
  refine mh_ireturn dL_law_1092 rfl rfl ?_
  exact hΦ _ _ _ _ _
set_option maxHeartbeats 4000000 in
set_option maxRecDepth 100000 in
theorem go_L_rest {l : Launch} {K : mhX} {kc ks : Nat} {Φ : mhQ} {S : List mhS} {F : mhF} {I : mhI} {J : mhJ} {P : mhP} {w h nr : Nat} {kd : Nat → Int32} {rp : mhRp} {o3 o7 o8 o9 o10 o11 o12 o13 o14 o15 o16 o17 : Option Value} (hI : lwI S F I P w h kd kd nr rp) (hn : nr ≤ 0) (hL : K.2.2.2.2.1 ≤ 260) (hkA : ∀ x, x < gSides w h → kdA (kd x)) (hkc : 14 ≤ kc) (hks : 70 ≤ ks) (hΦ : ∀ (S : List mhS) (F : mhF) (I : mhI) (J : mhJ) (P : mhP), Φ (some (.int 1)) S F I J P) : mhV l K mL_law kc ks Φ 61 [some (.retAddr 0), some (.ref 0), some (.ref 21), o3, some (.int (nI (gRooms w h))), some (.ref 33), some (.int (nI 0)), o7, o8, o9, o10, o11, o12, o13, o14, o15, o16, o17] [] S F I J P :=
  lp_L_turn hL (fun x hx => (so_A (hkA x hx)).1) (fun S F I P nr rp kc ks o3 o7 o8 o9 o10 o11 o12 o13 o14 o15 o16 o17 hI => tG_L_law hI hL hkA (fun k v I hk hv hI o9 o10 o11 o12 o13 o14 o15 o16 o17 => lp_L_back hL hkA hk hv (fun F I o8 o9 o10 o11 o12 o13 o14 o15 o16 o17 hI => tI_L_law hI hΦ) 6 0 F I _ _ _ _ _ _ _ _ _ (by omega) hI)) 14 0 nr rp S F I P kc ks _ _ _ _ _ _ _ _ _ _ _ _ (by omega) hn hI hkc hks
