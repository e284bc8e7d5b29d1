/-! from which rooms a photograph was taken -/
def mhPh (F : mhF) (I : mhI) (np : Nat) (pf : Nat → Int32) : Prop := np ≤ 6 ∧ F 0 10 = nI np ∧ ∀ x, x < 30 → I 5 (nI x) = pf x
def mhPm (F : mhF) (I : mhI) (np : Nat) (pf : Nat → Int32) : Prop := np ≤ 6 ∧ F 21 26 = nI np ∧ ∀ x, x < 30 → I 37 (nI x) = pf x
def vPh (np : Nat) (pf : Nat → Int32) : Prop := ∀ t, t < np → mhTurn (pf (5 * t)) (pf (5 * t + 1))
theorem mhPh.fr {F F' : mhF} {I I' : mhI} {np : Nat} {pf : Nat → Int32} (hf : frC F I F' I') (H : mhPh F I np pf) : mhPh F' I' np pf := ⟨H.1, (hf.1 0 10 (by omega)).trans H.2.1, fun x hx => (hf.2 _ _ (by decide) (by decide) (by decide)).trans (H.2.2 x hx)⟩
theorem mhPm.fr {F F' : mhF} {I I' : mhI} {np : Nat} {pf : Nat → Int32} (hf : frM F I F' I') (H : mhPm F I np pf) : mhPm F' I' np pf := ⟨H.1, (hf.1 21 26 (by omega)).trans H.2.1, fun x hx => (hf.2 _ _ (by decide) (by decide) (by decide)).trans (H.2.2 x hx)⟩
def tkG (w h : Nat) (kd : Nat → Int32) (pf : Nat → Int32) (r t : Nat) : mhSg := sgRun w h kd (sgPa (pf (5 * t)) (pf (5 * t + 1))) 60 (sgSt r (pf (5 * t)) (pf (5 * t + 1)))
abbrev tkOne (w h : Nat) (kd : Nat → Int32) (pf : Nat → Int32) (r t : Nat) : Prop := (tkG w h kd pf r t).2.2.2.2.2.2 = pf (5 * t + 2) ∧ nI (tkG w h kd pf r t).2.2.2.1 = pf (5 * t + 3) ∧ nI (tkG w h kd pf r t).2.2.2.2.1 = pf (5 * t + 4)
abbrev tkAll (w h : Nat) (kd : Nat → Int32) (pf : Nat → Int32) (r n : Nat) : Prop := ∀ t, t < n → tkOne w h kd pf r t
noncomputable def tkSet (w h : Nat) (kd : Nat → Int32) (pf : Nat → Int32) (np : Nat) : Nat → Int32
  | 0 => 0
  | r + 1 => if tkAll w h kd pf r np then tkSet w h kd pf np r ||| (1 <<< (nI r &&& 31)) else tkSet w h kd pf np r
noncomputable def tkI (w h : Nat) (kd : Nat → Int32) (pf : Nat → Int32) (r n : Nat) : Int32 := if tkAll w h kd pf r n then 1 else 0
theorem tkI_t {w h : Nat} {kd : Nat → Int32} {pf : Nat → Int32} {r n : Nat} (h1 : tkOne w h kd pf r n) : tkI w h kd pf r n &&& 1 = tkI w h kd pf r (n + 1) := by
  unfold tkI
  by_cases c : tkAll w h kd pf r n
  · rw [if_pos c, if_pos (show tkAll w h kd pf r (n + 1) from fun t ht => by
      rcases Nat.lt_or_ge t n with q | q
      · exact c t q
      · rw [show t = n by omega]; exact h1)]
    decide
  · rw [if_neg c, if_neg (fun z : tkAll w h kd pf r (n + 1) => c (fun t ht => z t (by omega)))]
    decide
theorem tkI_f {w h : Nat} {kd : Nat → Int32} {pf : Nat → Int32} {r n : Nat} (h1 : ¬ tkOne w h kd pf r n) : tkI w h kd pf r n &&& 0 = tkI w h kd pf r (n + 1) := by
  unfold tkI
  rw [if_neg (fun z : tkAll w h kd pf r (n + 1) => h1 (z n (by omega)))]
  split <;> decide
set_option maxHeartbeats 4000000 in
set_option maxRecDepth 100000 in
theorem lp_X6_showsPhotoFrom {l : Launch} {K : mhX} {kc ks : Nat} {Φ : mhQ} {S : List mhS} {J : mhJ} {P : mhP} (h6 : mhKX6 S) (h4 : mhKX4 S) {w h a r np : Nat} {kd pf : Nat → Int32} (hr : r < gRooms w h) (hv : vPh np pf) : ∀ (m t : Nat) (F : mhF) (I : mhI) (o4 : Option Value), t + m = np → mhHs S F I a w h → mhPn I a w h kd → mhPh F I np pf → tkAll w h kd pf r t → ( tkAll w h kd pf r np → ∀ (F2 : mhF) (I2 : mhI), frC F I F2 I2 → Φ (some (.int 1)) S F2 I2 J P) → (¬ tkAll w h kd pf r np → ∀ (F2 : mhF) (I2 : mhI), frC F I F2 I2 → Φ (some (.int 0)) S F2 I2 J P) → mhV l K mX6_showsPhotoFrom kc ks Φ 2 [some (.ref 0), some (.ref a), some (.int (nI r)), some (.int (nI (5 * t))), o4] [] S F I J P := by
  intro m
  induction m with
  | zero =>
    intro t F I o4 e hH hp hph hs ht hf
    obtain rfl : t = np := by omega
    have hn6 := hph.1
    refine mh_iload_3 dX6_showsPhotoFrom_2 (q := 3) rfl ?_
    refine mh_aload_0 dX6_showsPhotoFrom_3 (q := 4) rfl ?_
    refine mh_getI fl_X6_241 dX6_showsPhotoFrom_4 (q := 7) rfl (shX6_0 h6) rfl ?_
    rw [hph.2.1]
    refine mh_iconst_5 dX6_showsPhotoFrom_7 (q := 8) rfl ?_
    refine mh_imul dX6_showsPhotoFrom_8 (q := 9) rfl ?_
    rw [show (5 : Int32) = nI 5 from rfl, pk_mul]
    refine mh_icmp_ge dX6_showsPhotoFrom_9 (tgt := 122) (q := 12) rfl rfl (fun _ => ?_) (fun hh => absurd (show nI (t * 5) ≤ nI (5 * t) from nI_le (by omega) (by omega)) hh)
    refine mh_iconst_1 dX6_showsPhotoFrom_122 (q := 123) rfl ?_
    refine mh_ireturn dX6_showsPhotoFrom_123 rfl rfl ?_
    exact ht hs F I frC.rf
  | succ m ih =>
    intro t F I o4 e hH hp hph hs ht hf
    have hn6 := hph.1
    refine mh_iload_3 dX6_showsPhotoFrom_2 (q := 3) rfl ?_
    refine mh_aload_0 dX6_showsPhotoFrom_3 (q := 4) rfl ?_
    refine mh_getI fl_X6_241 dX6_showsPhotoFrom_4 (q := 7) rfl (shX6_0 h6) rfl ?_
    rw [hph.2.1]
    refine mh_iconst_5 dX6_showsPhotoFrom_7 (q := 8) rfl ?_
    refine mh_imul dX6_showsPhotoFrom_8 (q := 9) rfl ?_
    rw [show (nI np : Int32) * 5 = nI (np * 5) from pk_mul _ 5]
    refine mh_icmp_ge dX6_showsPhotoFrom_9 (tgt := 122) (q := 12) rfl rfl (fun hh => absurd hh (show ¬ nI (np * 5) ≤ nI (5 * t) from nI_ge (by omega) (by omega))) (fun _ => ?_)
    refine mh_iload_3 dX6_showsPhotoFrom_12 (q := 13) rfl ?_
    refine mh_iconst_5 dX6_showsPhotoFrom_13 (q := 14) rfl ?_
    refine mh_iadd dX6_showsPhotoFrom_14 (q := 15) rfl ?_
    rw [mh_s5]
    refine mh_aload_0 dX6_showsPhotoFrom_15 (q := 16) rfl ?_
    refine mh_getR fl_X6_35 dX6_showsPhotoFrom_16 (q := 19) rfl (shX6_0 h6) rfl ?_
    refine mh_alen (v := 30) dX6_showsPhotoFrom_19 (q := 20) rfl (shX6_5 h6) (by decide) rfl ?_
    refine mh_icmp_gt dX6_showsPhotoFrom_20 (tgt := 122) (q := 23) rfl rfl (fun hh => absurd hh (show ¬ (30 : Int32) < nI (5 * (t + 1)) from Int32.not_lt.mpr ((nI_leI (b := 30) (by omega) (by decide)).mpr (by omega)))) (fun _ => ?_)
    refine mh_aload_0 dX6_showsPhotoFrom_23 (q := 24) rfl ?_
    refine mh_getR fl_X6_42 dX6_showsPhotoFrom_24 (q := 27) rfl (shX6_0 h6) rfl ?_
    refine mh_aload_1 dX6_showsPhotoFrom_27 (q := 28) rfl ?_
    refine mh_iload_2 dX6_showsPhotoFrom_28 (q := 29) rfl ?_
    refine mh_aload_0 dX6_showsPhotoFrom_29 (q := 30) rfl ?_
    refine mh_getR fl_X6_35 dX6_showsPhotoFrom_30 (q := 33) rfl (shX6_0 h6) rfl ?_
    refine mh_iload_3 dX6_showsPhotoFrom_33 (q := 34) rfl ?_
    refine mh_iald dX6_showsPhotoFrom_34 (q := 35) rfl (shX6_5 h6) (vp_in_nI (by omega) (by decide)) ?_
    rw [hph.2.2 _ (by omega)]
    refine mh_aload_0 dX6_showsPhotoFrom_35 (q := 36) rfl ?_
    refine mh_getR fl_X6_35 dX6_showsPhotoFrom_36 (q := 39) rfl (shX6_0 h6) rfl ?_
    refine mh_iload_3 dX6_showsPhotoFrom_39 (q := 40) rfl ?_
    refine mh_iconst_1 dX6_showsPhotoFrom_40 (q := 41) rfl ?_
    refine mh_iadd dX6_showsPhotoFrom_41 (q := 42) rfl ?_
    rw [nI_1]
    refine mh_iald dX6_showsPhotoFrom_42 (q := 43) rfl (shX6_5 h6) (vp_in_nI (by omega) (by decide)) ?_
    rw [hph.2.2 _ (by omega)]
    refine mh_bipush (v := 60) dX6_showsPhotoFrom_43 (q := 45) rfl (by decide) ?_
    refine mh_callV5 ca_X6_showsPhotoFrom_45 (shX4_0 h4) (q := 48) rfl (by simp [Value.category]) ⟨Nat.zero_le _, Nat.zero_le _⟩ ?_
    refine sp_X4_look h4 hH hp hr (n := 60) (hv t (by omega)).bd (by decide) (fun F2 I2 u1 u2 => ?_)
    have hg : sgRun w h kd (sgPa (pf (5 * t)) (pf (5 * t + 1))) 60 (sgSt r (pf (5 * t)) (pf (5 * t + 1))) = tkG w h kd pf r t := rfl
    rw [hg] at u1
    obtain ⟨q1, q2, q3, q4, q5, q6⟩ := u1
    refine mh_aload_0 dX6_showsPhotoFrom_48 (q := 49) rfl ?_
    refine mh_getR fl_X6_42 dX6_showsPhotoFrom_49 (q := 52) rfl (shX6_0 h6) rfl ?_
    refine mh_getI fl_X6_176 dX6_showsPhotoFrom_52 (q := 55) rfl (shX4_0 h4) rfl ?_
    rw [q6]
    refine mh_aload_0 dX6_showsPhotoFrom_55 (q := 56) rfl ?_
    refine mh_getR fl_X6_35 dX6_showsPhotoFrom_56 (q := 59) rfl (shX6_0 h6) rfl ?_
    refine mh_iload_3 dX6_showsPhotoFrom_59 (q := 60) rfl ?_
    refine mh_iconst_2 dX6_showsPhotoFrom_60 (q := 61) rfl ?_
    refine mh_iadd dX6_showsPhotoFrom_61 (q := 62) rfl ?_
    rw [show nI (5 * t) + 2 = nI (5 * t + 2) from nI_add _ 2]
    refine mh_iald dX6_showsPhotoFrom_62 (q := 63) rfl (shX6_5 h6) (vp_in_nI (by omega) (by decide)) ?_
    rw [(u2.2 _ _ (by decide) (by decide) (by decide)).trans (hph.2.2 _ (by omega))]
    refine mh_icmp_ne dX6_showsPhotoFrom_63 (tgt := 106) (q := 66) rfl rfl (fun d1 => ?_) (fun d1 => ?_)
    · skip
      refine mh_iconst_0 dX6_showsPhotoFrom_106 (q := 107) rfl ?_
      refine mh_istore_4 dX6_showsPhotoFrom_107 (q := 109) rfl ?_
      refine mh_iload_4 dX6_showsPhotoFrom_109 (q := 111) rfl ?_
      refine mh_if_ne dX6_showsPhotoFrom_111 (tgt := 116) (q := 114) rfl rfl (fun hh => False.elim (by revert hh; decide)) (fun _ => ?_)
      refine mh_iconst_0 dX6_showsPhotoFrom_114 (q := 115) rfl ?_
      refine mh_ireturn dX6_showsPhotoFrom_115 rfl rfl ?_
      exact hf (fun z => by have z2 := z t (by omega); first | exact d1 z2.1 | exact d2 z2.2.1 | exact d3 z2.2.2) F2 I2 u2
    · skip
      refine mh_aload_0 dX6_showsPhotoFrom_66 (q := 67) rfl ?_
      refine mh_getR fl_X6_42 dX6_showsPhotoFrom_67 (q := 70) rfl (shX6_0 h6) rfl ?_
      refine mh_getI fl_X6_179 dX6_showsPhotoFrom_70 (q := 73) rfl (shX4_0 h4) rfl ?_
      rw [q3]
      refine mh_aload_0 dX6_showsPhotoFrom_73 (q := 74) rfl ?_
      refine mh_getR fl_X6_35 dX6_showsPhotoFrom_74 (q := 77) rfl (shX6_0 h6) rfl ?_
      refine mh_iload_3 dX6_showsPhotoFrom_77 (q := 78) rfl ?_
      refine mh_iconst_3 dX6_showsPhotoFrom_78 (q := 79) rfl ?_
      refine mh_iadd dX6_showsPhotoFrom_79 (q := 80) rfl ?_
      rw [show nI (5 * t) + 3 = nI (5 * t + 3) from nI_add _ 3]
      refine mh_iald dX6_showsPhotoFrom_80 (q := 81) rfl (shX6_5 h6) (vp_in_nI (by omega) (by decide)) ?_
      rw [(u2.2 _ _ (by decide) (by decide) (by decide)).trans (hph.2.2 _ (by omega))]
      refine mh_icmp_ne dX6_showsPhotoFrom_81 (tgt := 106) (q := 84) rfl rfl (fun d2 => ?_) (fun d2 => ?_)
      · skip
        refine mh_iconst_0 dX6_showsPhotoFrom_106 (q := 107) rfl ?_
        refine mh_istore_4 dX6_showsPhotoFrom_107 (q := 109) rfl ?_
        refine mh_iload_4 dX6_showsPhotoFrom_109 (q := 111) rfl ?_
        refine mh_if_ne dX6_showsPhotoFrom_111 (tgt := 116) (q := 114) rfl rfl (fun hh => False.elim (by revert hh; decide)) (fun _ => ?_)
        refine mh_iconst_0 dX6_showsPhotoFrom_114 (q := 115) rfl ?_
        refine mh_ireturn dX6_showsPhotoFrom_115 rfl rfl ?_
        exact hf (fun z => by have z2 := z t (by omega); first | exact d1 z2.1 | exact d2 z2.2.1 | exact d3 z2.2.2) F2 I2 u2
      · skip
        refine mh_aload_0 dX6_showsPhotoFrom_84 (q := 85) rfl ?_
        refine mh_getR fl_X6_42 dX6_showsPhotoFrom_85 (q := 88) rfl (shX6_0 h6) rfl ?_
        refine mh_getI fl_X6_182 dX6_showsPhotoFrom_88 (q := 91) rfl (shX4_0 h4) rfl ?_
        rw [q4]
        refine mh_aload_0 dX6_showsPhotoFrom_91 (q := 92) rfl ?_
        refine mh_getR fl_X6_35 dX6_showsPhotoFrom_92 (q := 95) rfl (shX6_0 h6) rfl ?_
        refine mh_iload_3 dX6_showsPhotoFrom_95 (q := 96) rfl ?_
        refine mh_iconst_4 dX6_showsPhotoFrom_96 (q := 97) rfl ?_
        refine mh_iadd dX6_showsPhotoFrom_97 (q := 98) rfl ?_
        rw [show nI (5 * t) + 4 = nI (5 * t + 4) from nI_add _ 4]
        refine mh_iald dX6_showsPhotoFrom_98 (q := 99) rfl (shX6_5 h6) (vp_in_nI (by omega) (by decide)) ?_
        rw [(u2.2 _ _ (by decide) (by decide) (by decide)).trans (hph.2.2 _ (by omega))]
        refine mh_icmp_ne dX6_showsPhotoFrom_99 (tgt := 106) (q := 102) rfl rfl (fun d3 => ?_) (fun d3 => ?_)
        · skip
          refine mh_iconst_0 dX6_showsPhotoFrom_106 (q := 107) rfl ?_
          refine mh_istore_4 dX6_showsPhotoFrom_107 (q := 109) rfl ?_
          refine mh_iload_4 dX6_showsPhotoFrom_109 (q := 111) rfl ?_
          refine mh_if_ne dX6_showsPhotoFrom_111 (tgt := 116) (q := 114) rfl rfl (fun hh => False.elim (by revert hh; decide)) (fun _ => ?_)
          refine mh_iconst_0 dX6_showsPhotoFrom_114 (q := 115) rfl ?_
          refine mh_ireturn dX6_showsPhotoFrom_115 rfl rfl ?_
          exact hf (fun z => by have z2 := z t (by omega); first | exact d1 z2.1 | exact d2 z2.2.1 | exact d3 z2.2.2) F2 I2 u2
        · skip
          refine mh_iconst_1 dX6_showsPhotoFrom_102 (q := 103) rfl ?_
          refine mh_goto dX6_showsPhotoFrom_103 (tgt := 107) rfl ?_
          refine mh_istore_4 dX6_showsPhotoFrom_107 (q := 109) rfl ?_
          refine mh_iload_4 dX6_showsPhotoFrom_109 (q := 111) rfl ?_
          refine mh_if_ne dX6_showsPhotoFrom_111 (tgt := 116) (q := 114) rfl rfl (fun _ => ?_) (fun hh => False.elim (by revert hh; decide))
          refine mh_iinc_3 (v := 5) dX6_showsPhotoFrom_116 (q := 119) rfl (by decide) ?_
          refine mh_goto dX6_showsPhotoFrom_119 (tgt := 2) rfl ?_
          rw [mh_s5]
          exact ih (t + 1) F2 I2 _ (by omega) (hH.fr u2) (hp.fr u2 hH.2.2.2.2.2.2.2.2.2.2) (hph.fr u2) (fun s hs2 => by
            rcases Nat.lt_or_ge s t with q | q
            · exact hs s q
            · obtain rfl : s = t := by omega
              exact ⟨d1, d2, d3⟩) (fun z F3 I3 t3 => ht z F3 I3 (u2.tr t3)) (fun z F3 I3 t3 => hf z F3 I3 (u2.tr t3))
set_option maxHeartbeats 4000000 in
set_option maxRecDepth 100000 in
theorem sp_X6_showsPhotoFrom {l : Launch} {K : mhX} {Φ : mhQ} {S : List mhS} {F : mhF} {I : mhI} {J : mhJ} {P : mhP} (h6 : mhKX6 S) (h4 : mhKX4 S) {w h a r np : Nat} {kd pf : Nat → Int32} (hr : r < gRooms w h) (hv : vPh np pf) (hH : mhHs S F I a w h) (hp : mhPn I a w h kd) (hph : mhPh F I np pf) (ht : tkAll w h kd pf r np → ∀ (F2 : mhF) (I2 : mhI), frC F I F2 I2 → Φ (some (.int 1)) S F2 I2 J P) (hf : ¬ tkAll w h kd pf r np → ∀ (F2 : mhF) (I2 : mhI), frC F I F2 I2 → Φ (some (.int 0)) S F2 I2 J P) : mhOk l K mX6_showsPhotoFrom [.ref 0, .ref a, .int (nI r)] S F I J P Φ := by
  refine mhOk.of (by decide) (by decide) rfl (Nat.le_of_ble_eq_true rfl) ?_
  refine mh_iconst_0 dX6_showsPhotoFrom_0 (q := 1) rfl ?_
  refine mh_istore_3 dX6_showsPhotoFrom_1 (q := 2) rfl ?_
  exact lp_X6_showsPhotoFrom (kc := mX6_showsPhotoFrom.2.2.2.2.cells) (ks := mX6_showsPhotoFrom.2.2.2.2.slots) h6 h4 hr hv np 0 F I _ (Nat.zero_add _) hH hp hph (fun s hs => absurd hs (Nat.not_lt_zero s)) ht hf
set_option maxHeartbeats 4000000 in
set_option maxRecDepth 100000 in
theorem lp_X6_taken {l : Launch} {K : mhX} {kc ks : Nat} {Φ : mhQ} {S : List mhS} {J : mhJ} {P : mhP} (h4 : mhKX4 S) {nh np j : Nat} {wd hg aH : Nat → Nat} {kd : Nat → Nat → Int32} {pf : Nat → Int32} (hj : j < nh) (hv : vPh np pf) : ∀ (m r : Nat) (F : mhF) (I : mhI), r + m = gRooms (wd j) (hg j) → mhHC S F I P nh wd hg aH → (∀ j, j < nh → mhPn I (aH j) (wd j) (hg j) (kd j)) → mhPh F I np pf → (∀ (F2 : mhF) (I2 : mhI), frC F I F2 I2 → Φ (some (.int (tkSet (wd j) (hg j) (kd j) pf np (gRooms (wd j) (hg j))))) S F2 I2 J P) → mhV l K mX6_taken kc ks Φ 27 [some (.ref 0), some (.int (nI j)), some (.ref (aH j)), some (.int (tkSet (wd j) (hg j) (kd j) pf np r)), some (.int (nI r))] [] S F I J P := by
  intro m
  induction m with
  | zero =>
    intro r F I e hC hK hph hΦ
    obtain rfl : r = gRooms (wd j) (hg j) := by omega
    have hb := gBd (hC.2.2.2 j hj).2.2.1
    refine mh_iload_4 dX6_taken_27 (q := 29) rfl ?_
    refine mh_aload_2 dX6_taken_29 (q := 30) rfl ?_
    refine mh_getI fl_X6_131 dX6_taken_30 (q := 33) rfl (shX1_0 (hC.2.2.2 j hj).2.1) rfl ?_
    rw [(hC.2.2.2 j hj).2.2.2.2.2.1]
    refine mh_icmp_ge dX6_taken_33 (tgt := 59) (q := 36) rfl rfl (fun _ => ?_) (fun hh => absurd (nI_le (Nat.le_refl _) (by omega)) hh)
    refine mh_iload_3 dX6_taken_59 (q := 60) rfl ?_
    refine mh_ireturn dX6_taken_60 rfl rfl ?_
    exact hΦ F I frC.rf
  | succ m ih =>
    intro r F I e hC hK hph hΦ
    have hb := gBd (hC.2.2.2 j hj).2.2.1
    have h9 := ih (r + 1)
    refine mh_iload_4 dX6_taken_27 (q := 29) rfl ?_
    refine mh_aload_2 dX6_taken_29 (q := 30) rfl ?_
    refine mh_getI fl_X6_131 dX6_taken_30 (q := 33) rfl (shX1_0 (hC.2.2.2 j hj).2.1) rfl ?_
    rw [(hC.2.2.2 j hj).2.2.2.2.2.1]
    refine mh_icmp_ge dX6_taken_33 (tgt := 59) (q := 36) rfl rfl (fun hh => absurd hh (nI_ge (by omega) (by omega))) (fun _ => ?_)
    refine mh_aload_0 dX6_taken_36 (q := 37) rfl ?_
    refine mh_aload_2 dX6_taken_37 (q := 38) rfl ?_
    refine mh_iload_4 dX6_taken_38 (q := 40) rfl ?_
    refine mh_callV2 ca_X6_taken_40 (shX6_0 hC.1) (q := 43) rfl (by simp [Value.category]) ⟨Nat.zero_le _, Nat.zero_le _⟩ ?_
    refine sp_X6_showsPhotoFrom hC.1 h4 (by omega) hv (hC.2.2.2 j hj).2 (hK j hj) hph (fun z F2 I2 u2 => ?_) (fun z F2 I2 u2 => ?_)
    · skip
      refine mh_if_eq dX6_taken_43 (tgt := 53) (q := 46) rfl rfl (fun hh => False.elim (by revert hh; decide)) (fun _ => ?_)
      refine mh_iload_3 dX6_taken_46 (q := 47) rfl ?_
      refine mh_iconst_1 dX6_taken_47 (q := 48) rfl ?_
      refine mh_iload_4 dX6_taken_48 (q := 50) rfl ?_
      refine mh_ishl dX6_taken_50 (q := 51) rfl ?_
      refine mh_ior dX6_taken_51 (q := 52) rfl ?_
      refine mh_istore_3 dX6_taken_52 (q := 53) rfl ?_
      refine mh_iinc_4 (v := 1) dX6_taken_53 (q := 56) rfl (by decide) ?_
      refine mh_goto dX6_taken_56 (tgt := 27) rfl ?_
      rw [nI_1]
      first
      | (have es : (tkSet (wd j) (hg j) (kd j) pf np (r + 1)) = (tkSet (wd j) (hg j) (kd j) pf np r) ||| (1 <<< (nI r &&& 31)) := if_pos z
         rw [es] at h9
         exact h9 F2 I2 (by omega) (hC.fr u2) (fun i hi => (hK i hi).fr u2 (hC.2.2.2 i hi).2.2.2.2.2.2.2.2.2.2.2) (hph.fr u2) (fun F3 I3 t2 => hΦ F3 I3 (u2.tr t2)))
      | (have es : (tkSet (wd j) (hg j) (kd j) pf np (r + 1)) = (tkSet (wd j) (hg j) (kd j) pf np r) := if_neg z
         rw [es] at h9
         exact h9 F2 I2 (by omega) (hC.fr u2) (fun i hi => (hK i hi).fr u2 (hC.2.2.2 i hi).2.2.2.2.2.2.2.2.2.2.2) (hph.fr u2) (fun F3 I3 t2 => hΦ F3 I3 (u2.tr t2)))
    · skip
      refine mh_if_eq dX6_taken_43 (tgt := 53) (q := 46) rfl rfl (fun _ => ?_) (fun hh => False.elim (by revert hh; decide))
      refine mh_iinc_4 (v := 1) dX6_taken_53 (q := 56) rfl (by decide) ?_
      refine mh_goto dX6_taken_56 (tgt := 27) rfl ?_
      rw [nI_1]
      first
      | (have es : (tkSet (wd j) (hg j) (kd j) pf np (r + 1)) = (tkSet (wd j) (hg j) (kd j) pf np r) ||| (1 <<< (nI r &&& 31)) := if_pos z
         rw [es] at h9
         exact h9 F2 I2 (by omega) (hC.fr u2) (fun i hi => (hK i hi).fr u2 (hC.2.2.2 i hi).2.2.2.2.2.2.2.2.2.2.2) (hph.fr u2) (fun F3 I3 t2 => hΦ F3 I3 (u2.tr t2)))
      | (have es : (tkSet (wd j) (hg j) (kd j) pf np (r + 1)) = (tkSet (wd j) (hg j) (kd j) pf np r) := if_neg z
         rw [es] at h9
         exact h9 F2 I2 (by omega) (hC.fr u2) (fun i hi => (hK i hi).fr u2 (hC.2.2.2 i hi).2.2.2.2.2.2.2.2.2.2.2) (hph.fr u2) (fun F3 I3 t2 => hΦ F3 I3 (u2.tr t2)))
set_option maxHeartbeats 4000000 in
set_option maxRecDepth 100000 in
theorem sp_X6_taken {l : Launch} {K : mhX} {Φ : mhQ} {S : List mhS} {F : mhF} {I : mhI} {J : mhJ} {P : mhP} (h4 : mhKX4 S) {nh : Nat} {wd hg aH : Nat → Nat} (hC : mhHC S F I P nh wd hg aH) {kd : Nat → Nat → Int32} (hK : ∀ j, j < nh → mhPn I (aH j) (wd j) (hg j) (kd j)) {np : Nat} {pf : Nat → Int32} (hph : mhPh F I np pf) (hv : vPh np pf) {x : Int32} (hn : ¬ vHs nh x → Φ (some (.int (-1))) S F I J P) (hz : vHs nh x → np = 0 → Φ (some (.int (-3))) S F I J P) (ht : ∀ j, j < nh → x = nI j → ¬ np = 0 → ∀ (F2 : mhF) (I2 : mhI), frC F I F2 I2 → Φ (some (.int (tkSet (wd j) (hg j) (kd j) pf np (gRooms (wd j) (hg j))))) S F2 I2 J P) : mhOk l K mX6_taken [.ref 0, .int x] S F I J P Φ := by
  refine mhOk.of (by decide) (by decide) rfl (Nat.le_of_ble_eq_true rfl) ?_
  refine mh_aload_0 dX6_taken_0 (q := 1) rfl ?_
  refine mh_iload_1 dX6_taken_1 (q := 2) rfl ?_
  refine mh_callV1 ca_X6_taken_2 (shX6_0 hC.1) (q := 5) rfl (by simp [Value.category]) ⟨Nat.zero_le _, Nat.zero_le _⟩ ?_
  refine sp_X6_houseAt hC (fun hk => ?_) (fun j hj ej => ?_)
  · skip
    refine mh_astoreN_2 dX6_taken_5 (q := 6) rfl ?_
    refine mh_aloadN_2 dX6_taken_6 (q := 7) rfl ?_
    refine mh_ifnonnullN dX6_taken_7 (q := 10) rfl ?_
    refine mh_iconst_m1 dX6_taken_10 (q := 11) rfl ?_
    refine mh_ireturn dX6_taken_11 rfl rfl ?_
    exact hn hk
  · skip
    subst ej
    refine mh_astore_2 dX6_taken_5 (q := 6) rfl ?_
    refine mh_aload_2 dX6_taken_6 (q := 7) rfl ?_
    refine mh_ifnonnullR dX6_taken_7 (tgt := 12) rfl ?_
    refine mh_aload_0 dX6_taken_12 (q := 13) rfl ?_
    refine mh_getI fl_X6_241 dX6_taken_13 (q := 16) rfl (shX6_0 hC.1) rfl ?_
    rw [hph.2.1]
    refine mh_if_ne dX6_taken_16 (tgt := 22) (q := 19) rfl rfl (fun cp => ?_) (fun cp => ?_)
    · skip
      have hn6 := hph.1
      rw [show (0 : Int32) = nI 0 from rfl, nI_eq (by omega) (by decide)] at cp
      refine mh_iconst_0 dX6_taken_22 (q := 23) rfl ?_
      refine mh_istore_3 dX6_taken_23 (q := 24) rfl ?_
      refine mh_iconst_0 dX6_taken_24 (q := 25) rfl ?_
      refine mh_istore_4 dX6_taken_25 (q := 27) rfl ?_
      exact lp_X6_taken (kc := mX6_taken.2.2.2.2.cells) (ks := mX6_taken.2.2.2.2.slots) h4 hj hv _ 0 F I (Nat.zero_add _) hC hK hph (fun F2 I2 u2 => ht j hj rfl cp F2 I2 u2)
    · skip
      have hn6 := hph.1
      rw [show (0 : Int32) = nI 0 from rfl, nI_eq (by omega) (by decide)] at cp
      refine mh_bipush (v := (-3)) dX6_taken_19 (q := 21) rfl (by decide) ?_
      refine mh_ireturn dX6_taken_21 rfl rfl ?_
      exact hz ⟨j, hj, rfl⟩ cp
set_option maxHeartbeats 4000000 in
set_option maxRecDepth 100000 in
theorem lp_X7_takenB {l : Launch} {K : mhX} {kc ks : Nat} {Φ : mhQ} {S : List mhS} {J : mhJ} {P : mhP} {nh np j r : Nat} {wd hg : Nat → Nat} {kd : Nat → Nat → Int32} {pf : Nat → Int32} (hj : j < nh) (hr : r < gRooms (wd j) (hg j)) (hv : vPh np pf) : ∀ (m t : Nat) (F : mhF) (I : mhI), t + m = np → mhHR S F I nh wd hg → (∀ j, j < nh → mhKn I j (wd j) (hg j) (kd j)) → mhPm F I np pf → (∀ (F2 : mhF) (I2 : mhI), frM F I F2 I2 → mhV l K mX7_taken kc ks Φ 146 [some (.ref 21), some (.int (nI j)), some (.int (tkSet (wd j) (hg j) (kd j) pf np r)), some (.int (nI r)), some (.int (tkI (wd j) (hg j) (kd j) pf r np)), some (.int (nI np))] [] S F2 I2 J P) → mhV l K mX7_taken kc ks Φ 39 [some (.ref 21), some (.int (nI j)), some (.int (tkSet (wd j) (hg j) (kd j) pf np r)), some (.int (nI r)), some (.int (tkI (wd j) (hg j) (kd j) pf r t)), some (.int (nI t))] [] S F I J P := by
  intro m
  induction m with
  | zero =>
    intro t F I e hM hK hph hΦ
    obtain rfl : t = np := by omega
    have hn6 := hph.1
    refine mh_iload_5 dX7_taken_39 (q := 41) rfl ?_
    refine mh_aload_0 dX7_taken_41 (q := 42) rfl ?_
    refine mh_getI fl_X7_216 dX7_taken_42 (q := 45) rfl (shX7_0 hM.1) rfl ?_
    rw [hph.2.1]
    refine mh_icmp_ge dX7_taken_45 (tgt := 146) (q := 48) rfl rfl (fun _ => ?_) (fun hh => absurd (nI_le (Nat.le_refl _) (by omega)) hh)
    exact hΦ F I frM.rf
  | succ m ih =>
    intro t F I e hM hK hph hΦ
    have hn6 := hph.1
    have h9 := ih (t + 1)
    refine mh_iload_5 dX7_taken_39 (q := 41) rfl ?_
    refine mh_aload_0 dX7_taken_41 (q := 42) rfl ?_
    refine mh_getI fl_X7_216 dX7_taken_42 (q := 45) rfl (shX7_0 hM.1) rfl ?_
    rw [hph.2.1]
    refine mh_icmp_ge dX7_taken_45 (tgt := 146) (q := 48) rfl rfl (fun hh => absurd hh (nI_ge (by omega) (by omega))) (fun _ => ?_)
    refine mh_aload_0 dX7_taken_48 (q := 49) rfl ?_
    refine mh_iload_1 dX7_taken_49 (q := 50) rfl ?_
    refine mh_iload_3 dX7_taken_50 (q := 51) rfl ?_
    refine mh_aload_0 dX7_taken_51 (q := 52) rfl ?_
    refine mh_getR fl_X7_56 dX7_taken_52 (q := 55) rfl (shX7_0 hM.1) rfl ?_
    refine mh_iconst_5 dX7_taken_55 (q := 56) rfl ?_
    refine mh_iload_5 dX7_taken_56 (q := 58) rfl ?_
    refine mh_imul dX7_taken_58 (q := 59) rfl ?_
    rw [show (5 : Int32) * nI t = nI (5 * t) from pk_mul 5 _]
    refine mh_iald dX7_taken_59 (q := 60) rfl (shX7_16 hM.1) (vp_in_nI (by omega) (by decide)) ?_
    rw [hph.2.2 _ (by omega)]
    refine mh_aload_0 dX7_taken_60 (q := 61) rfl ?_
    refine mh_getR fl_X7_56 dX7_taken_61 (q := 64) rfl (shX7_0 hM.1) rfl ?_
    refine mh_iconst_5 dX7_taken_64 (q := 65) rfl ?_
    refine mh_iload_5 dX7_taken_65 (q := 67) rfl ?_
    refine mh_imul dX7_taken_67 (q := 68) rfl ?_
    rw [show (5 : Int32) * nI t = nI (5 * t) from pk_mul 5 _]
    refine mh_iconst_1 dX7_taken_68 (q := 69) rfl ?_
    refine mh_iadd dX7_taken_69 (q := 70) rfl ?_
    rw [nI_1]
    refine mh_iald dX7_taken_70 (q := 71) rfl (shX7_16 hM.1) (vp_in_nI (by omega) (by decide)) ?_
    rw [hph.2.2 _ (by omega)]
    refine mh_bipush (v := 60) dX7_taken_71 (q := 73) rfl (by decide) ?_
    refine mh_callV5 ca_X7_taken_73 (shX7_0 hM.1) (q := 76) rfl (by simp [Value.category]) ⟨Nat.zero_le _, Nat.zero_le _⟩ ?_
    refine sp_X7_look hM.1 (hM.2.2.2 j hj) (hK j hj) hr (n := 60) (hv t (by omega)).bd (by decide) (fun F2 I2 u1 u2 => ?_)
    have hg9 : sgRun (wd j) (hg j) (kd j) (sgPa (pf (5 * t)) (pf (5 * t + 1))) 60 (sgSt r (pf (5 * t)) (pf (5 * t + 1))) = tkG (wd j) (hg j) (kd j) pf r t := rfl
    rw [hg9] at u1
    obtain ⟨q1, q2, q3, q4, q5, q6⟩ := u1
    refine mh_iload_4 dX7_taken_76 (q := 78) rfl ?_
    refine mh_aload_0 dX7_taken_78 (q := 79) rfl ?_
    refine mh_getI fl_X7_178 dX7_taken_79 (q := 82) rfl (shX7_0 hM.1) rfl ?_
    rw [q6]
    refine mh_aload_0 dX7_taken_82 (q := 83) rfl ?_
    refine mh_getR fl_X7_56 dX7_taken_83 (q := 86) rfl (shX7_0 hM.1) rfl ?_
    refine mh_iconst_5 dX7_taken_86 (q := 87) rfl ?_
    refine mh_iload_5 dX7_taken_87 (q := 89) rfl ?_
    refine mh_imul dX7_taken_89 (q := 90) rfl ?_
    rw [show (5 : Int32) * nI t = nI (5 * t) from pk_mul 5 _]
    refine mh_iconst_2 dX7_taken_90 (q := 91) rfl ?_
    refine mh_iadd dX7_taken_91 (q := 92) rfl ?_
    rw [show nI (5 * t) + 2 = nI (5 * t + 2) from nI_add _ 2]
    refine mh_iald dX7_taken_92 (q := 93) rfl (shX7_16 hM.1) (vp_in_nI (by omega) (by decide)) ?_
    rw [(u2.2 _ _ (by decide) (by decide) (by decide)).trans (hph.2.2 _ (by omega))]
    refine mh_icmp_ne dX7_taken_93 (tgt := 136) (q := 96) rfl rfl (fun d1 => ?_) (fun d1 => ?_)
    · skip
      refine mh_iconst_0 dX7_taken_136 (q := 137) rfl ?_
      refine mh_iand dX7_taken_137 (q := 138) rfl ?_
      refine mh_istore_4 dX7_taken_138 (q := 140) rfl ?_
      refine mh_iinc_5 (v := 1) dX7_taken_140 (q := 143) rfl (by decide) ?_
      refine mh_goto dX7_taken_143 (tgt := 39) rfl ?_
      rw [nI_1]
      have es : tkI (wd j) (hg j) (kd j) pf r t &&& 0 = tkI (wd j) (hg j) (kd j) pf r (t + 1) := tkI_f (fun z => d1 z.1)
      rw [es]
      exact h9 F2 I2 (by omega) (hM.fr u2) (fun i hi => (hK i hi).fr u2) (hph.fr u2) (fun F3 I3 t2 => hΦ F3 I3 (u2.tr t2))
    · skip
      refine mh_aload_0 dX7_taken_96 (q := 97) rfl ?_
      refine mh_getI fl_X7_169 dX7_taken_97 (q := 100) rfl (shX7_0 hM.1) rfl ?_
      rw [q3]
      refine mh_aload_0 dX7_taken_100 (q := 101) rfl ?_
      refine mh_getR fl_X7_56 dX7_taken_101 (q := 104) rfl (shX7_0 hM.1) rfl ?_
      refine mh_iconst_5 dX7_taken_104 (q := 105) rfl ?_
      refine mh_iload_5 dX7_taken_105 (q := 107) rfl ?_
      refine mh_imul dX7_taken_107 (q := 108) rfl ?_
      rw [show (5 : Int32) * nI t = nI (5 * t) from pk_mul 5 _]
      refine mh_iconst_3 dX7_taken_108 (q := 109) rfl ?_
      refine mh_iadd dX7_taken_109 (q := 110) rfl ?_
      rw [show nI (5 * t) + 3 = nI (5 * t + 3) from nI_add _ 3]
      refine mh_iald dX7_taken_110 (q := 111) rfl (shX7_16 hM.1) (vp_in_nI (by omega) (by decide)) ?_
      rw [(u2.2 _ _ (by decide) (by decide) (by decide)).trans (hph.2.2 _ (by omega))]
      refine mh_icmp_ne dX7_taken_111 (tgt := 136) (q := 114) rfl rfl (fun d2 => ?_) (fun d2 => ?_)
      · skip
        refine mh_iconst_0 dX7_taken_136 (q := 137) rfl ?_
        refine mh_iand dX7_taken_137 (q := 138) rfl ?_
        refine mh_istore_4 dX7_taken_138 (q := 140) rfl ?_
        refine mh_iinc_5 (v := 1) dX7_taken_140 (q := 143) rfl (by decide) ?_
        refine mh_goto dX7_taken_143 (tgt := 39) rfl ?_
        rw [nI_1]
        have es : tkI (wd j) (hg j) (kd j) pf r t &&& 0 = tkI (wd j) (hg j) (kd j) pf r (t + 1) := tkI_f (fun z => d2 z.2.1)
        rw [es]
        exact h9 F2 I2 (by omega) (hM.fr u2) (fun i hi => (hK i hi).fr u2) (hph.fr u2) (fun F3 I3 t2 => hΦ F3 I3 (u2.tr t2))
      · skip
        refine mh_aload_0 dX7_taken_114 (q := 115) rfl ?_
        refine mh_getI fl_X7_172 dX7_taken_115 (q := 118) rfl (shX7_0 hM.1) rfl ?_
        rw [q4]
        refine mh_aload_0 dX7_taken_118 (q := 119) rfl ?_
        refine mh_getR fl_X7_56 dX7_taken_119 (q := 122) rfl (shX7_0 hM.1) rfl ?_
        refine mh_iconst_5 dX7_taken_122 (q := 123) rfl ?_
        refine mh_iload_5 dX7_taken_123 (q := 125) rfl ?_
        refine mh_imul dX7_taken_125 (q := 126) rfl ?_
        rw [show (5 : Int32) * nI t = nI (5 * t) from pk_mul 5 _]
        refine mh_iconst_4 dX7_taken_126 (q := 127) rfl ?_
        refine mh_iadd dX7_taken_127 (q := 128) rfl ?_
        rw [show nI (5 * t) + 4 = nI (5 * t + 4) from nI_add _ 4]
        refine mh_iald dX7_taken_128 (q := 129) rfl (shX7_16 hM.1) (vp_in_nI (by omega) (by decide)) ?_
        rw [(u2.2 _ _ (by decide) (by decide) (by decide)).trans (hph.2.2 _ (by omega))]
        refine mh_icmp_ne dX7_taken_129 (tgt := 136) (q := 132) rfl rfl (fun d3 => ?_) (fun d3 => ?_)
        · skip
          refine mh_iconst_0 dX7_taken_136 (q := 137) rfl ?_
          refine mh_iand dX7_taken_137 (q := 138) rfl ?_
          refine mh_istore_4 dX7_taken_138 (q := 140) rfl ?_
          refine mh_iinc_5 (v := 1) dX7_taken_140 (q := 143) rfl (by decide) ?_
          refine mh_goto dX7_taken_143 (tgt := 39) rfl ?_
          rw [nI_1]
          have es : tkI (wd j) (hg j) (kd j) pf r t &&& 0 = tkI (wd j) (hg j) (kd j) pf r (t + 1) := tkI_f (fun z => d3 z.2.2)
          rw [es]
          exact h9 F2 I2 (by omega) (hM.fr u2) (fun i hi => (hK i hi).fr u2) (hph.fr u2) (fun F3 I3 t2 => hΦ F3 I3 (u2.tr t2))
        · skip
          refine mh_iconst_1 dX7_taken_132 (q := 133) rfl ?_
          refine mh_goto dX7_taken_133 (tgt := 137) rfl ?_
          refine mh_iand dX7_taken_137 (q := 138) rfl ?_
          refine mh_istore_4 dX7_taken_138 (q := 140) rfl ?_
          refine mh_iinc_5 (v := 1) dX7_taken_140 (q := 143) rfl (by decide) ?_
          refine mh_goto dX7_taken_143 (tgt := 39) rfl ?_
          rw [nI_1]
          have es : tkI (wd j) (hg j) (kd j) pf r t &&& 1 = tkI (wd j) (hg j) (kd j) pf r (t + 1) := tkI_t ⟨d1, d2, d3⟩
          rw [es]
          exact h9 F2 I2 (by omega) (hM.fr u2) (fun i hi => (hK i hi).fr u2) (hph.fr u2) (fun F3 I3 t2 => hΦ F3 I3 (u2.tr t2))
set_option maxHeartbeats 4000000 in
set_option maxRecDepth 100000 in
theorem lp_X7_taken {l : Launch} {K : mhX} {kc ks : Nat} {Φ : mhQ} {S : List mhS} {J : mhJ} {P : mhP} {nh np j : Nat} {wd hg : Nat → Nat} {kd : Nat → Nat → Int32} {pf : Nat → Int32} (hj : j < nh) (hv : vPh np pf) : ∀ (m r : Nat) (F : mhF) (I : mhI) (o4 o5 : Option Value), r + m = gRooms (wd j) (hg j) → mhHR S F I nh wd hg → (∀ j, j < nh → mhKn I j (wd j) (hg j) (kd j)) → mhPm F I np pf → (∀ (F2 : mhF) (I2 : mhI), frM F I F2 I2 → Φ (some (.int (tkSet (wd j) (hg j) (kd j) pf np (gRooms (wd j) (hg j))))) S F2 I2 J P) → mhV l K mX7_taken kc ks Φ 24 [some (.ref 21), some (.int (nI j)), some (.int (tkSet (wd j) (hg j) (kd j) pf np r)), some (.int (nI r)), o4, o5] [] S F I J P := by
  intro m
  induction m with
  | zero =>
    intro r F I o4 o5 e hM hK hph hΦ
    obtain rfl : r = gRooms (wd j) (hg j) := by omega
    have hb := gBd (hM.2.2.2 j hj).2.1
    refine mh_iload_3 dX7_taken_24 (q := 25) rfl ?_
    refine mh_aload_0 dX7_taken_25 (q := 26) rfl ?_
    refine mh_iload_1 dX7_taken_26 (q := 27) rfl ?_
    refine mh_callV1 ca_X7_taken_27 (shX7_0 hM.1) (q := 30) rfl (by simp [Value.category]) ⟨Nat.zero_le _, Nat.zero_le _⟩ ?_
    refine sp_X7_rooms hM.1 (hM.2.2.2 j hj) ?_
    refine mh_icmp_ge dX7_taken_30 (tgt := 167) (q := 33) rfl rfl (fun _ => ?_) (fun hh => absurd (nI_le (Nat.le_refl _) (by omega)) hh)
    refine mh_iload_2 dX7_taken_167 (q := 168) rfl ?_
    refine mh_ireturn dX7_taken_168 rfl rfl ?_
    exact hΦ F I frM.rf
  | succ m ih =>
    intro r F I o4 o5 e hM hK hph hΦ
    have hb := gBd (hM.2.2.2 j hj).2.1
    have h9 := ih (r + 1)
    refine mh_iload_3 dX7_taken_24 (q := 25) rfl ?_
    refine mh_aload_0 dX7_taken_25 (q := 26) rfl ?_
    refine mh_iload_1 dX7_taken_26 (q := 27) rfl ?_
    refine mh_callV1 ca_X7_taken_27 (shX7_0 hM.1) (q := 30) rfl (by simp [Value.category]) ⟨Nat.zero_le _, Nat.zero_le _⟩ ?_
    refine sp_X7_rooms hM.1 (hM.2.2.2 j hj) ?_
    refine mh_icmp_ge dX7_taken_30 (tgt := 167) (q := 33) rfl rfl (fun hh => absurd hh (nI_ge (by omega) (by omega))) (fun _ => ?_)
    refine mh_iconst_1 dX7_taken_33 (q := 34) rfl ?_
    refine mh_istore_4 dX7_taken_34 (q := 36) rfl ?_
    refine mh_iconst_0 dX7_taken_36 (q := 37) rfl ?_
    refine mh_istore_5 dX7_taken_37 (q := 39) rfl ?_
    refine mhV_lo ?_ (lp_X7_takenB hj (r := r) (by omega) hv np 0 F I (Nat.zero_add _) hM hK hph (fun F2 I2 u2 => ?_))
    · rw [show tkI (wd j) (hg j) (kd j) pf r 0 = 1 from if_pos (fun t ht => absurd ht (Nat.not_lt_zero t))]
      rfl
    refine mh_iload_2 dX7_taken_146 (q := 147) rfl ?_
    refine mh_iload_4 dX7_taken_147 (q := 149) rfl ?_
    
    refine mh_if_eq dX7_taken_149 (tgt := 158) (q := 152) rfl rfl (fun cz => ?_) (fun cz => ?_)
    · skip
      refine mh_iconst_0 dX7_taken_158 (q := 159) rfl ?_
      refine mh_ior dX7_taken_159 (q := 160) rfl ?_
      refine mh_istore_2 dX7_taken_160 (q := 161) rfl ?_
      refine mh_iinc_3 (v := 1) dX7_taken_161 (q := 164) rfl (by decide) ?_
      refine mh_goto dX7_taken_164 (tgt := 24) rfl ?_
      rw [nI_1]
      first
      | (have z : tkAll (wd j) (hg j) (kd j) pf r np := by
           refine Decidable.byContradiction (fun z => cz ?_)
           exact if_neg z
         have es : (tkSet (wd j) (hg j) (kd j) pf np (r + 1)) = (tkSet (wd j) (hg j) (kd j) pf np r) ||| (1 <<< (nI r &&& 31)) := if_pos z
         rw [es] at h9
         exact h9 F2 I2 _ _ (by omega) (hM.fr u2) (fun i hi => (hK i hi).fr u2) (hph.fr u2) (fun F3 I3 t2 => hΦ F3 I3 (u2.tr t2)))
      | (have z : ¬ tkAll (wd j) (hg j) (kd j) pf r np := fun z => absurd ((if_pos z).symm.trans cz) (by decide)
         have es : (tkSet (wd j) (hg j) (kd j) pf np (r + 1)) = (tkSet (wd j) (hg j) (kd j) pf np r) := if_neg z
         rw [es] at h9
         rw [Int32.or_zero]
         exact h9 F2 I2 _ _ (by omega) (hM.fr u2) (fun i hi => (hK i hi).fr u2) (hph.fr u2) (fun F3 I3 t2 => hΦ F3 I3 (u2.tr t2)))
    · skip
      refine mh_iconst_1 dX7_taken_152 (q := 153) rfl ?_
      refine mh_iload_3 dX7_taken_153 (q := 154) rfl ?_
      refine mh_ishl dX7_taken_154 (q := 155) rfl ?_
      refine mh_goto dX7_taken_155 (tgt := 159) rfl ?_
      refine mh_ior dX7_taken_159 (q := 160) rfl ?_
      refine mh_istore_2 dX7_taken_160 (q := 161) rfl ?_
      refine mh_iinc_3 (v := 1) dX7_taken_161 (q := 164) rfl (by decide) ?_
      refine mh_goto dX7_taken_164 (tgt := 24) rfl ?_
      rw [nI_1]
      first
      | (have z : tkAll (wd j) (hg j) (kd j) pf r np := by
           refine Decidable.byContradiction (fun z => cz ?_)
           exact if_neg z
         have es : (tkSet (wd j) (hg j) (kd j) pf np (r + 1)) = (tkSet (wd j) (hg j) (kd j) pf np r) ||| (1 <<< (nI r &&& 31)) := if_pos z
         rw [es] at h9
         exact h9 F2 I2 _ _ (by omega) (hM.fr u2) (fun i hi => (hK i hi).fr u2) (hph.fr u2) (fun F3 I3 t2 => hΦ F3 I3 (u2.tr t2)))
      | (have z : ¬ tkAll (wd j) (hg j) (kd j) pf r np := fun z => absurd ((if_pos z).symm.trans cz) (by decide)
         have es : (tkSet (wd j) (hg j) (kd j) pf np (r + 1)) = (tkSet (wd j) (hg j) (kd j) pf np r) := if_neg z
         rw [es] at h9
         rw [Int32.or_zero]
         exact h9 F2 I2 _ _ (by omega) (hM.fr u2) (fun i hi => (hK i hi).fr u2) (hph.fr u2) (fun F3 I3 t2 => hΦ F3 I3 (u2.tr t2)))
set_option maxHeartbeats 4000000 in
set_option maxRecDepth 100000 in
theorem sp_X7_taken {l : Launch} {K : mhX} {Φ : mhQ} {S : List mhS} {F : mhF} {I : mhI} {J : mhJ} {P : mhP} {nh : Nat} {wd hg : Nat → Nat} (hM : mhHR S F I nh wd hg) {kd : Nat → Nat → Int32} (hK : ∀ j, j < nh → mhKn I j (wd j) (hg j) (kd j)) {np : Nat} {pf : Nat → Int32} (hph : mhPm F I np pf) (hv : vPh np pf) {x : Int32} (hn : ¬ vHs nh x → Φ (some (.int (-1))) S F I J P) (hz : vHs nh x → np = 0 → Φ (some (.int (-3))) S F I J P) (ht : ∀ j, j < nh → x = nI j → ¬ np = 0 → ∀ (F2 : mhF) (I2 : mhI), frM F I F2 I2 → Φ (some (.int (tkSet (wd j) (hg j) (kd j) pf np (gRooms (wd j) (hg j))))) S F2 I2 J P) : mhOk l K mX7_taken [.ref 21, .int x] S F I J P Φ := by
  refine mhOk.of (by decide) (by decide) rfl (Nat.le_of_ble_eq_true rfl) ?_
  refine mh_aload_0 dX7_taken_0 (q := 1) rfl ?_
  refine mh_iload_1 dX7_taken_1 (q := 2) rfl ?_
  refine mh_callV1 ca_X7_taken_2 (shX7_0 hM.1) (q := 5) rfl (by simp [Value.category]) ⟨Nat.zero_le _, Nat.zero_le _⟩ ?_
  refine sp_X7_isHouse hM (fun j hj ej => ?_) (fun hk => ?_)
  · skip
    subst ej
    refine mh_if_ne dX7_taken_5 (tgt := 10) (q := 8) rfl rfl (fun _ => ?_) (fun hh => False.elim (by revert hh; decide))
    refine mh_aload_0 dX7_taken_10 (q := 11) rfl ?_
    refine mh_getI fl_X7_216 dX7_taken_11 (q := 14) rfl (shX7_0 hM.1) rfl ?_
    rw [hph.2.1]
    refine mh_if_ne dX7_taken_14 (tgt := 20) (q := 17) rfl rfl (fun cp => ?_) (fun cp => ?_)
    · skip
      have hn6 := hph.1
      rw [show (0 : Int32) = nI 0 from rfl, nI_eq (by omega) (by decide)] at cp
      refine mh_iconst_0 dX7_taken_20 (q := 21) rfl ?_
      refine mh_istore_2 dX7_taken_21 (q := 22) rfl ?_
      refine mh_iconst_0 dX7_taken_22 (q := 23) rfl ?_
      refine mh_istore_3 dX7_taken_23 (q := 24) rfl ?_
      exact lp_X7_taken (kc := mX7_taken.2.2.2.2.cells) (ks := mX7_taken.2.2.2.2.slots) hj hv _ 0 F I _ _ (Nat.zero_add _) hM hK hph (fun F2 I2 u2 => ht j hj rfl cp F2 I2 u2)
    · skip
      have hn6 := hph.1
      rw [show (0 : Int32) = nI 0 from rfl, nI_eq (by omega) (by decide)] at cp
      refine mh_bipush (v := (-3)) dX7_taken_17 (q := 19) rfl (by decide) ?_
      refine mh_ireturn dX7_taken_19 rfl rfl ?_
      exact hz ⟨j, hj, rfl⟩ cp
  · skip
    refine mh_if_ne dX7_taken_5 (tgt := 10) (q := 8) rfl rfl (fun hh => False.elim (by revert hh; decide)) (fun _ => ?_)
    refine mh_iconst_m1 dX7_taken_8 (q := 9) rfl ?_
    refine mh_ireturn dX7_taken_9 rfl rfl ?_
    exact hn hk
