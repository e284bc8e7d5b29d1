/-! changed, change: the reference -/
def ulM (F : mhF) (I : mhI) (n : Nat) (un : Nat → Nat) : Prop := F 21 42 = nI n ∧ ∀ i, i < n → I 49 (nI i) = nI (un i)
def frN (F : mhF) (I : mhI) (F' : mhF) (I' : mhI) : Prop := (∀ b k, ¬ (b = 21 ∧ k = 42) → F' b k = F b k) ∧ ∀ b y, b ≠ 49 → I' b y = I b y
theorem frN.rf {F : mhF} {I : mhI} : frN F I F I := ⟨fun _ _ _ => rfl, fun _ _ _ => rfl⟩
theorem frN.tr {F F1 F2 : mhF} {I I1 I2 : mhI} (h : frN F I F1 I1) (h2 : frN F1 I1 F2 I2) : frN F I F2 I2 := ⟨fun b k e => (h2.1 b k e).trans (h.1 b k e), fun b y e => (h2.2 b y e).trans (h.2 b y e)⟩
theorem mhHm.frn {F F' : mhF} {I I' : mhI} {j w h : Nat} (hf : frN F I F' I') (H : mhHm I j w h) : mhHm I' j w h := ⟨H.1, H.2.1, (hf.2 _ _ (by decide)).trans H.2.2.1, (hf.2 _ _ (by decide)).trans H.2.2.2⟩
theorem mhKn.frn {F F' : mhF} {I I' : mhI} {j w h : Nat} {kd : Nat → Int32} (hf : frN F I F' I') (H : mhKn I j w h kd) : mhKn I' j w h kd := fun k hk => (hf.2 _ _ (by decide)).trans (H k hk)
theorem mhHR.frn {S : List mhS} {F F' : mhF} {I I' : mhI} {nh : Nat} {wd hg : Nat → Nat} (hf : frN F I F' I') (H : mhHR S F I nh wd hg) : mhHR S F' I' nh wd hg := ⟨H.1, H.2.1, (hf.1 21 5 (by decide)).trans H.2.2.1, fun j hj => (H.2.2.2 j hj).frn hf⟩
set_option maxHeartbeats 4000000 in
set_option maxRecDepth 100000 in
theorem lp_X7_whyNot {l : Launch} {K : mhX} {kc ks : Nat} {Φ : mhQ} {S : List mhS} {J : mhJ} {P : mhP} {nh : Nat} {wd hg : Nat → Nat} {kd : Nat → Nat → Int32} {j j2 : Nat} (hj : j < nh) (hj2 : j2 < nh) (ew : wd j = wd j2) (eh : hg j = hg j2) : ∀ (m q : Nat) (F : mhF) (I : mhI), q + m = gSides (wd j) (hg j) → mhHR S F I nh wd hg → mhKn I j (wd j) (hg j) (kd j) → mhKn I j2 (wd j) (hg j) (kd j2) → ulM F I (ulS (kd j) (kd j2) q).1 (ulS (kd j) (kd j2) q).2 → (ulS (kd j) (kd j2) q).1 ≤ 10 → (∀ (F2 : mhF) (I2 : mhI), (ulS (kd j) (kd j2) (gSides (wd j) (hg j))).1 ≤ 10 → ulM F2 I2 (ulS (kd j) (kd j2) (gSides (wd j) (hg j))).1 (ulS (kd j) (kd j2) (gSides (wd j) (hg j))).2 → frN F I F2 I2 → Φ (some (.int 0)) S F2 I2 J P) → (∀ (F2 : mhF) (I2 : mhI), ¬ (ulS (kd j) (kd j2) (gSides (wd j) (hg j))).1 ≤ 10 → frN F I F2 I2 → Φ (some (.int (-3))) S F2 I2 J P) → mhV l K mX7_whyNot kc ks Φ 66 [some (.ref 21), some (.int (nI j)), some (.int (nI j2)), some (.int (nI q))] [] S F I J P := by
  intro m
  induction m with
  | zero =>
    intro q F I hq hM hp hp2 hu h10 ht hf
    have hbd := gBd (hM.2.2.2 j hj).2.1
    obtain rfl : q = gSides (wd j) (hg j) := by omega
    refine mh_iload_3 dX7_whyNot_66 (q := 67) rfl ?_
    refine mh_aload_0 dX7_whyNot_67 (q := 68) rfl ?_
    refine mh_iload_1 dX7_whyNot_68 (q := 69) rfl ?_
    refine mh_callV1 ca_X7_whyNot_69 (shX7_0 hM.1) (q := 72) rfl (by simp [Value.category]) ⟨Nat.zero_le _, Nat.zero_le _⟩ ?_
    refine sp_X7_sides hM.1 (hM.2.2.2 j hj) ?_
    refine mh_icmp_ge dX7_whyNot_72 (tgt := 141) (q := 75) rfl rfl (fun _ => ?_) (fun hh => absurd (nI_le (Nat.le_refl _) (by omega)) hh)
    refine mh_iconst_0 dX7_whyNot_141 (q := 142) rfl ?_
    refine mh_ireturn dX7_whyNot_142 rfl rfl ?_
    exact ht F I h10 hu frN.rf
  | succ m ih =>
    intro q F I hq hM hp hp2 hu h10 ht hf
    have hbd := gBd (hM.2.2.2 j hj).2.1
    have h3 := hM.2.1
    have hqs : q < gSides (wd j) (hg j) := by omega
    have h9 := ih (q + 1)
    refine mh_iload_3 dX7_whyNot_66 (q := 67) rfl ?_
    refine mh_aload_0 dX7_whyNot_67 (q := 68) rfl ?_
    refine mh_iload_1 dX7_whyNot_68 (q := 69) rfl ?_
    refine mh_callV1 ca_X7_whyNot_69 (shX7_0 hM.1) (q := 72) rfl (by simp [Value.category]) ⟨Nat.zero_le _, Nat.zero_le _⟩ ?_
    refine sp_X7_sides hM.1 (hM.2.2.2 j hj) ?_
    refine mh_icmp_ge dX7_whyNot_72 (tgt := 141) (q := 75) rfl rfl (fun hh => absurd hh (nI_ge (by omega) (by omega))) (fun _ => ?_)
    refine mh_aload_0 dX7_whyNot_75 (q := 76) rfl ?_
    refine mh_getR fl_X7_25 dX7_whyNot_76 (q := 79) rfl (shX7_0 hM.1) rfl ?_
    refine mh_bipush (v := 50) dX7_whyNot_79 (q := 81) rfl (by decide) ?_
    refine mh_iload_1 dX7_whyNot_81 (q := 82) rfl ?_
    refine mh_imul dX7_whyNot_82 (q := 83) rfl ?_
    refine mh_iload_3 dX7_whyNot_83 (q := 84) rfl ?_
    refine mh_iadd dX7_whyNot_84 (q := 85) rfl ?_
    refine mh_iald dX7_whyNot_85 (q := 86) rfl (shX7_6 hM.1) (by rw [mh_e50]; exact vp_in_nI (by omega) (by decide)) ?_
    rw [mh_e50, hp q hqs]
    refine mh_aload_0 dX7_whyNot_86 (q := 87) rfl ?_
    refine mh_getR fl_X7_25 dX7_whyNot_87 (q := 90) rfl (shX7_0 hM.1) rfl ?_
    refine mh_bipush (v := 50) dX7_whyNot_90 (q := 92) rfl (by decide) ?_
    refine mh_iload_2 dX7_whyNot_92 (q := 93) rfl ?_
    refine mh_imul dX7_whyNot_93 (q := 94) rfl ?_
    refine mh_iload_3 dX7_whyNot_94 (q := 95) rfl ?_
    refine mh_iadd dX7_whyNot_95 (q := 96) rfl ?_
    refine mh_iald dX7_whyNot_96 (q := 97) rfl (shX7_6 hM.1) (by rw [mh_e50]; exact vp_in_nI (by omega) (by decide)) ?_
    rw [mh_e50, hp2 q hqs]
    refine mh_icmp_ne dX7_whyNot_97 (tgt := 103) (q := 100) rfl rfl (fun c97 => ?_) (fun c97 => ?_)
    · skip
      refine mh_aload_0 dX7_whyNot_103 (q := 104) rfl ?_
      refine mh_getI fl_X7_261 dX7_whyNot_104 (q := 107) rfl (shX7_0 hM.1) rfl ?_
      rw [hu.1]
      refine mh_bipush (v := 10) dX7_whyNot_107 (q := 109) rfl (by decide) ?_
      refine mh_icmp_ne dX7_whyNot_109 (tgt := 115) (q := 112) rfl rfl (fun c109 => ?_) (fun c109 => ?_)
      · skip
        refine mh_aload_0 dX7_whyNot_115 (q := 116) rfl ?_
        refine mh_getR fl_X7_92 dX7_whyNot_116 (q := 119) rfl (shX7_0 hM.1) rfl ?_
        refine mh_aload_0 dX7_whyNot_119 (q := 120) rfl ?_
        refine mh_getI fl_X7_261 dX7_whyNot_120 (q := 123) rfl (shX7_0 hM.1) rfl ?_
        rw [hu.1]
        refine mh_iload_3 dX7_whyNot_123 (q := 124) rfl ?_
        refine mh_iast dX7_whyNot_124 (q := 125) rfl (shX7_28 hM.1) (by decide) (vp_in_nI (by rw [show (10 : Int32) = nI 10 from rfl, nI_eq (by omega) (by decide)] at c109; omega) (by decide)) ?_
        refine mh_aload_0 dX7_whyNot_125 (q := 126) rfl ?_
        refine mh_dupr dX7_whyNot_126 (q := 127) rfl ?_
        refine mh_getI fl_X7_261 dX7_whyNot_127 (q := 130) rfl (shX7_0 hM.1) rfl ?_
        rw [hu.1]
        refine mh_iconst_1 dX7_whyNot_130 (q := 131) rfl ?_
        refine mh_iadd dX7_whyNot_131 (q := 132) rfl ?_
        rw [nI_1]
        refine mh_putI (Or.inl fw_X7_261) rfl rfl dX7_whyNot_132 (q := 135) rfl (shX7_0 hM.1) rfl ?_
        refine mh_iinc_3 (v := 1) dX7_whyNot_135 (q := 138) rfl (by decide) ?_
        refine mh_goto dX7_whyNot_138 (tgt := 66) rfl ?_
        rw [nI_1]
        rw [ulS_n c97] at h9
        rw [show (10 : Int32) = nI 10 from rfl, nI_eq (by omega) (by decide)] at c109
        have hfr : frN F I (mhUF F 21 42 (nI ((ulS (kd j) (kd j2) q).1 + 1))) (mhUI I 49 (nI (ulS (kd j) (kd j2) q).1) (nI q)) := ⟨fun b k e => mhUF_nk e, fun b y e => mhUI_ne e⟩
        refine h9 _ _ (by omega) (hM.frn hfr) (hp.frn hfr) (hp2.frn hfr) ⟨mhUF_at, fun i hi => ?_⟩ (by dsimp only; omega) (fun F2 I2 e1 e2 e3 => ht F2 I2 e1 e2 (hfr.tr e3)) (fun F2 I2 e1 e3 => hf F2 I2 e1 (hfr.tr e3))
        dsimp only at hi ⊢
        rw [mhUI_at (by omega) (by omega)]
        by_cases e : i = (ulS (kd j) (kd j2) q).1
        · rw [if_pos ⟨rfl, e⟩, if_pos e]
        · rw [if_neg (fun z => e z.2), if_neg e]; exact hu.2 i (by omega)
      · skip
        refine mh_bipush (v := (-3)) dX7_whyNot_112 (q := 114) rfl (by decide) ?_
        refine mh_ireturn dX7_whyNot_114 rfl rfl ?_
        rw [show (10 : Int32) = nI 10 from rfl, nI_eq (by omega) (by decide)] at c109
        refine hf F I (fun z => ?_) frN.rf
        have := ulS_mono (kf := kd j) (kt := kd j2) (k := q + 1) (d := gSides (wd j) (hg j) - (q + 1))
        rw [show q + 1 + (gSides (wd j) (hg j) - (q + 1)) = gSides (wd j) (hg j) by omega, ulS_n c97] at this
        dsimp only at this
        omega
    · skip
      refine mh_goto dX7_whyNot_100 (tgt := 135) rfl ?_
      refine mh_iinc_3 (v := 1) dX7_whyNot_135 (q := 138) rfl (by decide) ?_
      refine mh_goto dX7_whyNot_138 (tgt := 66) rfl ?_
      rw [nI_1]
      rw [ulS_e c97] at h9
      exact h9 F I (by omega) hM hp hp2 hu h10 ht hf
set_option maxHeartbeats 4000000 in
set_option maxRecDepth 100000 in
theorem sp_X7_whyNot {l : Launch} {K : mhX} {Φ : mhQ} {S : List mhS} {F : mhF} {I : mhI} {J : mhJ} {P : mhP} {nh : Nat} {wd hg : Nat → Nat} (hM : mhHR S F I nh wd hg) {kd : Nat → Nat → Int32} (hK : ∀ j, j < nh → mhKn I j (wd j) (hg j) (kd j)) {x y : Int32} (hn : ¬ (vHs nh x ∧ vHs nh y) → Φ (some (.int (-1))) S F I J P) (hb : vHs nh x ∧ vHs nh y → x = y → Φ (some (.int (-2))) S F I J P) (hf : ∀ j j2, j < nh → j2 < nh → x = nI j → y = nI j2 → j ≠ j2 → ¬ chOk wd hg kd j j2 → ∀ (F2 : mhF) (I2 : mhI), frN F I F2 I2 → Φ (some (.int (-3))) S F2 I2 J P) (ht : ∀ j j2, j < nh → j2 < nh → x = nI j → y = nI j2 → j ≠ j2 → chOk wd hg kd j j2 → ∀ (F2 : mhF) (I2 : mhI), ulM F2 I2 (ulS (kd j) (kd j2) (gSides (wd j) (hg j))).1 (ulS (kd j) (kd j2) (gSides (wd j) (hg j))).2 → frN F I F2 I2 → Φ (some (.int 0)) S F2 I2 J P) : mhOk l K mX7_whyNot [.ref 21, .int x, .int y] S F I J P Φ := by
  refine mhOk.of (by decide) (by decide) rfl (Nat.le_of_ble_eq_true rfl) ?_
  refine mh_aload_0 dX7_whyNot_0 (q := 1) rfl ?_
  refine mh_iload_1 dX7_whyNot_1 (q := 2) rfl ?_
  refine mh_callV1 ca_X7_whyNot_2 (shX7_0 hM.1) (q := 5) rfl (by simp [Value.category]) ⟨Nat.zero_le _, Nat.zero_le _⟩ ?_
  refine sp_X7_isHouse hM (fun j hj ej => ?_) (fun hk => ?_)
  · skip
    subst ej
    refine mh_if_eq dX7_whyNot_5 (tgt := 16) (q := 8) rfl rfl (fun hh => False.elim (by revert hh; decide)) (fun _ => ?_)
    refine mh_aload_0 dX7_whyNot_8 (q := 9) rfl ?_
    refine mh_iload_2 dX7_whyNot_9 (q := 10) rfl ?_
    refine mh_callV1 ca_X7_whyNot_10 (shX7_0 hM.1) (q := 13) rfl (by simp [Value.category]) ⟨Nat.zero_le _, Nat.zero_le _⟩ ?_
    refine sp_X7_isHouse hM (fun j2 hj2 ej2 => ?_) (fun hk2 => ?_)
    · skip
      subst ej2
      refine mh_if_ne dX7_whyNot_13 (tgt := 18) (q := 16) rfl rfl (fun _ => ?_) (fun hh => False.elim (by revert hh; decide))
      refine mh_iload_1 dX7_whyNot_18 (q := 19) rfl ?_
      refine mh_iload_2 dX7_whyNot_19 (q := 20) rfl ?_
      refine mh_icmp_ne dX7_whyNot_20 (tgt := 26) (q := 23) rfl rfl (fun c20 => ?_) (fun c20 => ?_)
      · skip
        have hne : j ≠ j2 := fun e => c20 (by rw [e])
        refine mh_aload_0 dX7_whyNot_26 (q := 27) rfl ?_
        refine mh_getR fl_X7_19 dX7_whyNot_27 (q := 30) rfl (shX7_0 hM.1) rfl ?_
        refine mh_iload_1 dX7_whyNot_30 (q := 31) rfl ?_
        refine mh_iald dX7_whyNot_31 (q := 32) rfl (shX7_4 hM.1) (vp_in_nI (by have := hM.2.1; omega) (by decide)) ?_
        rw [(hM.2.2.2 j hj).2.2.1]
        refine mh_aload_0 dX7_whyNot_32 (q := 33) rfl ?_
        refine mh_getR fl_X7_19 dX7_whyNot_33 (q := 36) rfl (shX7_0 hM.1) rfl ?_
        refine mh_iload_2 dX7_whyNot_36 (q := 37) rfl ?_
        refine mh_iald dX7_whyNot_37 (q := 38) rfl (shX7_4 hM.1) (vp_in_nI (by have := hM.2.1; omega) (by decide)) ?_
        rw [(hM.2.2.2 j2 hj2).2.2.1]
        refine mh_icmp_ne dX7_whyNot_38 (tgt := 56) (q := 41) rfl rfl (fun c38 => ?_) (fun c38 => ?_)
        · skip
          rw [nI_eq (by have := (hM.2.2.2 j hj).2.1.2.1; omega) (by have := (hM.2.2.2 j2 hj2).2.1.2.1; omega)] at c38
          refine mh_bipush (v := (-3)) dX7_whyNot_56 (q := 58) rfl (by decide) ?_
          refine mh_ireturn dX7_whyNot_58 rfl rfl ?_
          exact hf j j2 hj hj2 rfl rfl hne (fun z => by first | exact c38 z.1 | exact c53 z.2.1) F I frN.rf
        · skip
          rw [nI_eq (by have := (hM.2.2.2 j hj).2.1.2.1; omega) (by have := (hM.2.2.2 j2 hj2).2.1.2.1; omega)] at c38
          refine mh_aload_0 dX7_whyNot_41 (q := 42) rfl ?_
          refine mh_getR fl_X7_22 dX7_whyNot_42 (q := 45) rfl (shX7_0 hM.1) rfl ?_
          refine mh_iload_1 dX7_whyNot_45 (q := 46) rfl ?_
          refine mh_iald dX7_whyNot_46 (q := 47) rfl (shX7_5 hM.1) (vp_in_nI (by have := hM.2.1; omega) (by decide)) ?_
          rw [(hM.2.2.2 j hj).2.2.2]
          refine mh_aload_0 dX7_whyNot_47 (q := 48) rfl ?_
          refine mh_getR fl_X7_22 dX7_whyNot_48 (q := 51) rfl (shX7_0 hM.1) rfl ?_
          refine mh_iload_2 dX7_whyNot_51 (q := 52) rfl ?_
          refine mh_iald dX7_whyNot_52 (q := 53) rfl (shX7_5 hM.1) (vp_in_nI (by have := hM.2.1; omega) (by decide)) ?_
          rw [(hM.2.2.2 j2 hj2).2.2.2]
          refine mh_icmp_eq dX7_whyNot_53 (tgt := 59) (q := 56) rfl rfl (fun c53 => ?_) (fun c53 => ?_)
          · skip
            rw [nI_eq (by have := (hM.2.2.2 j hj).2.1.2.2.2; omega) (by have := (hM.2.2.2 j2 hj2).2.1.2.2.2; omega)] at c53
            refine mh_aload_0 dX7_whyNot_59 (q := 60) rfl ?_
            refine mh_iconst_0 dX7_whyNot_60 (q := 61) rfl ?_
            refine mh_putI (Or.inl fw_X7_261) rfl rfl dX7_whyNot_61 (q := 64) rfl (shX7_0 hM.1) rfl ?_
            refine mh_iconst_0 dX7_whyNot_64 (q := 65) rfl ?_
            refine mh_istore_3 dX7_whyNot_65 (q := 66) rfl ?_
            have hfr : frN F I (mhUF F 21 42 0) I := ⟨fun b k e => mhUF_nk e, fun _ _ _ => rfl⟩
            exact lp_X7_whyNot (kc := mX7_whyNot.2.2.2.2.cells) (ks := mX7_whyNot.2.2.2.2.slots) hj hj2 c38 c53 (gSides (wd j) (hg j)) 0 _ I (Nat.zero_add _) (hM.frn hfr) (hK j hj) (by have := hK j2 hj2; rw [← c38, ← c53] at this; exact this) ⟨mhUF_at, fun i hi => absurd hi (Nat.not_lt_zero i)⟩ (Nat.zero_le _) (fun F2 I2 e1 e2 e3 => ht j j2 hj hj2 rfl rfl hne ⟨c38, c53, e1⟩ F2 I2 e2 (hfr.tr e3)) (fun F2 I2 e1 e3 => hf j j2 hj hj2 rfl rfl hne (fun z => e1 z.2.2) F2 I2 (hfr.tr e3))
          · skip
            rw [nI_eq (by have := (hM.2.2.2 j hj).2.1.2.2.2; omega) (by have := (hM.2.2.2 j2 hj2).2.1.2.2.2; omega)] at c53
            refine mh_bipush (v := (-3)) dX7_whyNot_56 (q := 58) rfl (by decide) ?_
            refine mh_ireturn dX7_whyNot_58 rfl rfl ?_
            exact hf j j2 hj hj2 rfl rfl hne (fun z => by first | exact c38 z.1 | exact c53 z.2.1) F I frN.rf
      · skip
        refine mh_bipush (v := (-2)) dX7_whyNot_23 (q := 25) rfl (by decide) ?_
        refine mh_ireturn dX7_whyNot_25 rfl rfl ?_
        exact hb ⟨⟨j, hj, rfl⟩, ⟨j2, hj2, rfl⟩⟩ c20
    · skip
      refine mh_if_ne dX7_whyNot_13 (tgt := 18) (q := 16) rfl rfl (fun hh => False.elim (by revert hh; decide)) (fun _ => ?_)
      refine mh_iconst_m1 dX7_whyNot_16 (q := 17) rfl ?_
      refine mh_ireturn dX7_whyNot_17 rfl rfl ?_
      exact hn (fun z => by first | exact hk z.1 | exact hk2 z.2)
  · skip
    refine mh_if_eq dX7_whyNot_5 (tgt := 16) (q := 8) rfl rfl (fun _ => ?_) (fun hh => False.elim (by revert hh; decide))
    refine mh_iconst_m1 dX7_whyNot_16 (q := 17) rfl ?_
    refine mh_ireturn dX7_whyNot_17 rfl rfl ?_
    exact hn (fun z => by first | exact hk z.1 | exact hk2 z.2)
def lrS (I0 : mhI) (j n : Nat) (un : Nat → Nat) (I : mhI) : Prop := (∀ b y, b ≠ 47 → b ≠ 27 → b ≠ 50 → I b y = I0 b y) ∧ (∀ y, (∀ x, x < n → y ≠ nI (50 * j + un x)) → I 27 y = I0 27 y) ∧ ∀ x, x < n → I 50 (nI x) = I0 27 (nI (50 * j + un x))
theorem lrS.f47 {I0 I I2 : mhI} {j n : Nat} {un : Nat → Nat} (h : lrS I0 j n un I) (h2 : fr47 I I2) : lrS I0 j n un I2 := ⟨fun b y e1 e2 e3 => (h2 b y e1).trans (h.1 b y e1 e2 e3), fun y hy => (h2 _ _ (by decide)).trans (h.2.1 y hy), fun x hx => (h2 _ _ (by decide)).trans (h.2.2 x hx)⟩
theorem lrS.up {I0 I : mhI} {j n q : Nat} {un : Nat → Nat} {v : Int32} (h : lrS I0 j n un I) (hq : q < n) : lrS I0 j n un (mhUI I 27 (nI (50 * j + un q)) v) := ⟨fun b y e1 e2 e3 => (mhUI_ne e2).trans (h.1 b y e1 e2 e3), fun y hy => (if_neg (fun e => hy q hq e.2)).trans (h.2.1 y hy), fun x hx => (mhUI_ne (by decide)).trans (h.2.2 x hx)⟩
theorem lrS.hm {I0 I : mhI} {j n w h : Nat} {un : Nat → Nat} (hf : lrS I0 j n un I) (H : mhHm I0 j w h) : mhHm I j w h := ⟨H.1, H.2.1, (hf.1 _ _ (by decide) (by decide) (by decide)).trans H.2.2.1, (hf.1 _ _ (by decide) (by decide) (by decide)).trans H.2.2.2⟩
theorem mhUJ_at {J : mhJ} {a b i x : Nat} {v : Int64} (hi : i < 2 ^ 31) (hx : x < 2 ^ 31) : mhUJ J a (nI i) v b (nI x) = if b = a ∧ x = i then v else J b (nI x) := by
  unfold mhUJ
  simp only [nI_eq hx hi]
set_option maxHeartbeats 4000000 in
set_option maxRecDepth 100000 in
theorem lp_X7_layA {l : Launch} {K : mhX} {kc ks : Nat} {Φ : mhQ} {S : List mhS} {P : mhP} {F : mhF} {I0 : mhI} {J : mhJ} (h7 : mhKX7 S) {j j2 w h n : Nat} {kf kt : Nat → Int32} {un : Nat → Nat} (hm : mhHm I0 j w h) (hj2 : j2 < 3) (hjj : j ≠ j2) (hk : mhKn I0 j w h kf) (hk2 : mhKn I0 j2 w h kt) (hn : n ≤ 10) (hun : ∀ i, i < n → un i < gSides w h) (hinc : ∀ i j, i < j → j < n → un i < un j) (hu : ulM F I0 n un) (hΦ : ∀ I, lrS I0 j n un I → (∀ y, I 27 y = I0 27 y) → mhV l K mX7_layRows kc ks Φ 38 [some (.ref 21), some (.int (nI j)), some (.int (nI j2)), some (.int (nI n)), none, none] [] S F I J P) : ∀ (m q : Nat) (I : mhI), q + m = n → (∀ b y, b ≠ 50 → I b y = I0 b y) → (∀ x, x < q → I 50 (nI x) = I0 27 (nI (50 * j + un x))) → mhV l K mX7_layRows kc ks Φ 2 [some (.ref 21), some (.int (nI j)), some (.int (nI j2)), some (.int (nI q)), none, none] [] S F I J P := by
  have hbd := gBd hm.2.1
  have hj := hm.1
  intro m
  induction m with
  | zero =>
    intro q I hq hf hx
    obtain rfl : q = n := by omega
    refine mh_iload_3 dX7_layRows_2 (q := 3) rfl ?_
    refine mh_aload_0 dX7_layRows_3 (q := 4) rfl ?_
    refine mh_getI fl_X7_261 dX7_layRows_4 (q := 7) rfl (shX7_0 h7) rfl ?_
    rw [hu.1]
    refine mh_icmp_ge dX7_layRows_7 (tgt := 38) (q := 10) rfl rfl (fun _ => ?_) (fun hh => absurd (nI_le (Nat.le_refl _) (by omega)) hh)
    exact hΦ I ⟨fun b y _ _ e => hf b y e, fun y _ => hf _ y (by decide), hx⟩ (fun y => hf _ y (by decide))
  | succ m ih =>
    intro q I hq hf hx
    have uq := hun q (by omega)
    refine mh_iload_3 dX7_layRows_2 (q := 3) rfl ?_
    refine mh_aload_0 dX7_layRows_3 (q := 4) rfl ?_
    refine mh_getI fl_X7_261 dX7_layRows_4 (q := 7) rfl (shX7_0 h7) rfl ?_
    rw [hu.1]
    refine mh_icmp_ge dX7_layRows_7 (tgt := 38) (q := 10) rfl rfl (fun hh => absurd hh (nI_ge (by omega) (by omega))) (fun _ => ?_)
    refine mh_aload_0 dX7_layRows_10 (q := 11) rfl ?_
    refine mh_getR fl_X7_95 dX7_layRows_11 (q := 14) rfl (shX7_0 h7) rfl ?_
    refine mh_iload_3 dX7_layRows_14 (q := 15) rfl ?_
    refine mh_aload_0 dX7_layRows_15 (q := 16) rfl ?_
    refine mh_getR fl_X7_25 dX7_layRows_16 (q := 19) rfl (shX7_0 h7) rfl ?_
    refine mh_bipush (v := 50) dX7_layRows_19 (q := 21) rfl (by decide) ?_
    refine mh_iload_1 dX7_layRows_21 (q := 22) rfl ?_
    refine mh_imul dX7_layRows_22 (q := 23) rfl ?_
    refine mh_aload_0 dX7_layRows_23 (q := 24) rfl ?_
    refine mh_getR fl_X7_92 dX7_layRows_24 (q := 27) rfl (shX7_0 h7) rfl ?_
    refine mh_iload_3 dX7_layRows_27 (q := 28) rfl ?_
    refine mh_iald dX7_layRows_28 (q := 29) rfl (shX7_28 h7) (vp_in_nI (by omega) (by decide)) ?_
    rw [hf 49 _ (by decide), hu.2 q (by omega)]
    refine mh_iadd dX7_layRows_29 (q := 30) rfl ?_
    refine mh_iald dX7_layRows_30 (q := 31) rfl (shX7_6 h7) (by rw [mh_e50]; exact vp_in_nI (by omega) (by decide)) ?_
    rw [mh_e50, hf 27 _ (by decide)]
    refine mh_iast dX7_layRows_31 (q := 32) rfl (shX7_29 h7) (by decide) (vp_in_nI (by omega) (by decide)) ?_
    refine mh_iinc_3 (v := 1) dX7_layRows_32 (q := 35) rfl (by decide) ?_
    refine mh_goto dX7_layRows_35 (tgt := 2) rfl ?_
    rw [nI_1]
    refine ih (q + 1) _ (by omega) (fun b y e => (mhUI_ne e).trans (hf b y e)) (fun x hx2 => ?_)
    rw [mhUI_at (by omega) (by omega)]
    by_cases e : x = q
    · rw [if_pos ⟨rfl, e⟩, e]
    · rw [if_neg (fun z => e z.2)]; exact hx x (by omega)
set_option maxHeartbeats 4000000 in
set_option maxRecDepth 100000 in
theorem lp_X7_layK {l : Launch} {K : mhX} {kc ks : Nat} {Φ : mhQ} {S : List mhS} {P : mhP} {F : mhF} {I0 : mhI} {J : mhJ} (h7 : mhKX7 S) {j j2 w h n : Nat} {kf kt : Nat → Int32} {un : Nat → Nat} (hm : mhHm I0 j w h) (hj2 : j2 < 3) (hjj : j ≠ j2) (hk : mhKn I0 j w h kf) (hk2 : mhKn I0 j2 w h kt) (hn : n ≤ 10) (hun : ∀ i, i < n → un i < gSides w h) (hinc : ∀ i j, i < j → j < n → un i < un j) (hu : ulM F I0 n un) {s : Nat} (hs : s < 2 ^ n) (hΦ : ∀ I, lrS I0 j n un I → (∀ x, x < gSides w h → ((∃ y, y < n ∧ un y = x) ∨ (∀ y, y < n → un y ≠ x)) → I 27 (nI (50 * j + x)) = csF kf kt un s n x) → mhV l K mX7_layRows kc ks Φ 127 [some (.ref 21), some (.int (nI j)), some (.int (nI j2)), some (.int (nI (2 ^ n))), some (.int (nI s)), some (.int (nI n))] [] S F I J P) : ∀ (m q : Nat) (I : mhI), q + m = n → lrS I0 j n un I → (∀ x, x < gSides w h → ((∃ y, y < q ∧ un y = x) ∨ (∀ y, y < n → un y ≠ x)) → I 27 (nI (50 * j + x)) = csF kf kt un s q x) → mhV l K mX7_layRows kc ks Φ 58 [some (.ref 21), some (.int (nI j)), some (.int (nI j2)), some (.int (nI (2 ^ n))), some (.int (nI s)), some (.int (nI q))] [] S F I J P := by
  have hbd := gBd hm.2.1
  have hj := hm.1
  intro m
  induction m with
  | zero =>
    intro q I hq hf hp
    obtain rfl : q = n := by omega
    refine mh_iload_5 dX7_layRows_58 (q := 60) rfl ?_
    refine mh_aload_0 dX7_layRows_60 (q := 61) rfl ?_
    refine mh_getI fl_X7_261 dX7_layRows_61 (q := 64) rfl (shX7_0 h7) rfl ?_
    rw [hu.1]
    refine mh_icmp_ge dX7_layRows_64 (tgt := 127) (q := 67) rfl rfl (fun _ => ?_) (fun hh => absurd (nI_le (Nat.le_refl _) (by omega)) hh)
    exact hΦ I hf hp
  | succ m ih =>
    intro q I hq hf hp
    have uq := hun q (by omega)
    have eu : I 49 (nI q) = nI (un q) := (hf.1 49 _ (by decide) (by decide) (by decide)).trans (hu.2 q (by omega))
    refine mh_iload_5 dX7_layRows_58 (q := 60) rfl ?_
    refine mh_aload_0 dX7_layRows_60 (q := 61) rfl ?_
    refine mh_getI fl_X7_261 dX7_layRows_61 (q := 64) rfl (shX7_0 h7) rfl ?_
    rw [hu.1]
    refine mh_icmp_ge dX7_layRows_64 (tgt := 127) (q := 67) rfl rfl (fun hh => absurd hh (nI_ge (by omega) (by omega))) (fun _ => ?_)
    refine mh_aload_0 dX7_layRows_67 (q := 68) rfl ?_
    refine mh_getR fl_X7_25 dX7_layRows_68 (q := 71) rfl (shX7_0 h7) rfl ?_
    refine mh_bipush (v := 50) dX7_layRows_71 (q := 73) rfl (by decide) ?_
    refine mh_iload_1 dX7_layRows_73 (q := 74) rfl ?_
    refine mh_imul dX7_layRows_74 (q := 75) rfl ?_
    refine mh_aload_0 dX7_layRows_75 (q := 76) rfl ?_
    refine mh_getR fl_X7_92 dX7_layRows_76 (q := 79) rfl (shX7_0 h7) rfl ?_
    refine mh_iload_5 dX7_layRows_79 (q := 81) rfl ?_
    refine mh_iald dX7_layRows_81 (q := 82) rfl (shX7_28 h7) (vp_in_nI (by omega) (by decide)) ?_
    rw [eu]
    refine mh_iadd dX7_layRows_82 (q := 83) rfl ?_
    rw [mh_e50]
    refine mh_iload_4 dX7_layRows_83 (q := 85) rfl ?_
    refine mh_iload_5 dX7_layRows_85 (q := 87) rfl ?_
    refine mh_callS2 ca_X7_layRows_87 (q := 90) rfl (by simp [Value.category]) ⟨Nat.zero_le _, Nat.zero_le _⟩ ?_
    refine sp_X7_has (fun ch => ?_) (fun ch => ?_)
    · skip
      refine mh_if_eq dX7_layRows_90 (tgt := 113) (q := 93) rfl rfl (fun hh => False.elim (by revert hh; decide)) (fun _ => ?_)
      refine mh_aload_0 dX7_layRows_93 (q := 94) rfl ?_
      refine mh_getR fl_X7_25 dX7_layRows_94 (q := 97) rfl (shX7_0 h7) rfl ?_
      refine mh_bipush (v := 50) dX7_layRows_97 (q := 99) rfl (by decide) ?_
      refine mh_iload_2 dX7_layRows_99 (q := 100) rfl ?_
      refine mh_imul dX7_layRows_100 (q := 101) rfl ?_
      refine mh_aload_0 dX7_layRows_101 (q := 102) rfl ?_
      refine mh_getR fl_X7_92 dX7_layRows_102 (q := 105) rfl (shX7_0 h7) rfl ?_
      refine mh_iload_5 dX7_layRows_105 (q := 107) rfl ?_
      refine mh_iald dX7_layRows_107 (q := 108) rfl (shX7_28 h7) (vp_in_nI (by omega) (by decide)) ?_
      rw [eu]
      refine mh_iadd dX7_layRows_108 (q := 109) rfl ?_
      refine mh_iald dX7_layRows_109 (q := 110) rfl (shX7_6 h7) (by rw [mh_e50]; exact vp_in_nI (by omega) (by decide)) ?_
      rw [mh_e50, hf.2.1 _ (fun x hx e => by have ux := hun x hx; have := (nI_eq (by omega) (by omega)).mp e; omega), hk2 _ uq]
      refine mh_goto dX7_layRows_110 (tgt := 120) rfl ?_
      refine mh_iast dX7_layRows_120 (q := 121) rfl (shX7_6 h7) (by decide) (vp_in_nI (by omega) (by decide)) ?_
      refine mh_iinc_5 (v := 1) dX7_layRows_121 (q := 124) rfl (by decide) ?_
      refine mh_goto dX7_layRows_124 (tgt := 58) rfl ?_
      rw [nI_1]
      have tb : s.testBit q = true := Decidable.byContradiction (fun z => by rw [nI_tb (by omega), if_neg z] at ch; exact absurd ch (by decide))
      refine ih (q + 1) _ (by omega) (hf.up (by omega)) (fun x hx hxx => ?_)
      rw [mhUI_at (by omega) (by omega), csF_s, if_pos tb]
      by_cases e : x = un q
      · rw [if_pos ⟨rfl, by omega⟩, if_pos e, e]
      · rw [if_neg (fun z => e (by omega)), if_neg e]
        refine hp x hx (hxx.imp (fun z => ?_) id)
        obtain ⟨y, y1, y2⟩ := z
        rcases Nat.lt_or_ge y q with u | u
        · exact ⟨y, u, y2⟩
        · rw [show y = q by omega] at y2
          exact absurd y2.symm e
    · skip
      refine mh_if_eq dX7_layRows_90 (tgt := 113) (q := 93) rfl rfl (fun _ => ?_) (fun hh => False.elim (by revert hh; decide))
      refine mh_aload_0 dX7_layRows_113 (q := 114) rfl ?_
      refine mh_getR fl_X7_95 dX7_layRows_114 (q := 117) rfl (shX7_0 h7) rfl ?_
      refine mh_iload_5 dX7_layRows_117 (q := 119) rfl ?_
      refine mh_iald dX7_layRows_119 (q := 120) rfl (shX7_29 h7) (vp_in_nI (by omega) (by decide)) ?_
      rw [hf.2.2 q (by omega), hk _ uq]
      refine mh_iast dX7_layRows_120 (q := 121) rfl (shX7_6 h7) (by decide) (vp_in_nI (by omega) (by decide)) ?_
      refine mh_iinc_5 (v := 1) dX7_layRows_121 (q := 124) rfl (by decide) ?_
      refine mh_goto dX7_layRows_124 (tgt := 58) rfl ?_
      rw [nI_1]
      have tb : ¬ s.testBit q = true := fun z => ch (by rw [nI_tb (by omega), if_pos z])
      refine ih (q + 1) _ (by omega) (hf.up (by omega)) (fun x hx hxx => ?_)
      rw [mhUI_at (by omega) (by omega), csF_s, if_neg tb]
      by_cases e : x = un q
      · rw [if_pos ⟨rfl, by omega⟩, if_pos e, e]
      · rw [if_neg (fun z => e (by omega)), if_neg e]
        refine hp x hx (hxx.imp (fun z => ?_) id)
        obtain ⟨y, y1, y2⟩ := z
        rcases Nat.lt_or_ge y q with u | u
        · exact ⟨y, u, y2⟩
        · rw [show y = q by omega] at y2
          exact absurd y2.symm e
set_option maxHeartbeats 4000000 in
set_option maxRecDepth 100000 in
theorem lp_X7_layS {l : Launch} {K : mhX} {kc ks : Nat} {Φ : mhQ} {S : List mhS} {P : mhP} {F : mhF} {I0 : mhI} (h7 : mhKX7 S) {j j2 w h n : Nat} {kf kt : Nat → Int32} {un : Nat → Nat} (hm : mhHm I0 j w h) (hj2 : j2 < 3) (hjj : j ≠ j2) (hk : mhKn I0 j w h kf) (hk2 : mhKn I0 j2 w h kt) (hn : n ≤ 10) (hun : ∀ i, i < n → un i < gSides w h) (hinc : ∀ i j, i < j → j < n → un i < un j) (hu : ulM F I0 n un) {s B mm : Nat} {I : mhI} (hs : s = 2 ^ n - 1 - mm) (hmm : mm < 2 ^ n) (hf : lrS I0 j n un I) (hΦ : ∀ J : mhJ, J 51 (nI s) = lN (B + rwS (rwT w h kf kt un n mm) s n) → (∀ y, y < 2 ^ n → 2 ^ n - mm ≤ y → J 51 (nI y) = lN ((rwT w h kf kt un n mm) y)) → mhV l K mX7_layRows kc ks Φ 218 [some (.ref 21), some (.int (nI j)), some (.int (nI j2)), some (.int (nI (2 ^ n))), some (.int (nI s)), some (.int (nI n))] [] S F I J P) : ∀ (m q : Nat) (J : mhJ), q + m = n → J 51 (nI s) = lN (B + rwS (rwT w h kf kt un n mm) s q) → (∀ y, y < 2 ^ n → 2 ^ n - mm ≤ y → J 51 (nI y) = lN ((rwT w h kf kt un n mm) y)) → mhV l K mX7_layRows kc ks Φ 167 [some (.ref 21), some (.int (nI j)), some (.int (nI j2)), some (.int (nI (2 ^ n))), some (.int (nI s)), some (.int (nI q))] [] S F I J P := by
  have hbd := gBd hm.2.1
  have hj := hm.1
  have p2 : 2 ^ n ≤ 2 ^ 10 := Nat.pow_le_pow_right (by decide) hn
  have p0 : 0 < 2 ^ n := Nat.two_pow_pos n
  intro m
  induction m with
  | zero =>
    intro q J hq hJ hT
    obtain rfl : q = n := by omega
    refine mh_iload_5 dX7_layRows_167 (q := 169) rfl ?_
    refine mh_aload_0 dX7_layRows_169 (q := 170) rfl ?_
    refine mh_getI fl_X7_261 dX7_layRows_170 (q := 173) rfl (shX7_0 h7) rfl ?_
    rw [hu.1]
    refine mh_icmp_ge dX7_layRows_173 (tgt := 218) (q := 176) rfl rfl (fun _ => ?_) (fun hh => absurd (nI_le (Nat.le_refl _) (by omega)) hh)
    exact hΦ J hJ hT
  | succ m ih =>
    intro q J hq hJ hT
    have h9 := ih (q + 1)
    have es : rwS (rwT w h kf kt un n mm) s (q + 1) = rwS (rwT w h kf kt un n mm) s q + (if s.testBit q = true then 0 else (rwT w h kf kt un n mm) (s ||| 2 ^ q)) := rfl
    rw [es] at h9
    refine mh_iload_5 dX7_layRows_167 (q := 169) rfl ?_
    refine mh_aload_0 dX7_layRows_169 (q := 170) rfl ?_
    refine mh_getI fl_X7_261 dX7_layRows_170 (q := 173) rfl (shX7_0 h7) rfl ?_
    rw [hu.1]
    refine mh_icmp_ge dX7_layRows_173 (tgt := 218) (q := 176) rfl rfl (fun hh => absurd hh (nI_ge (by omega) (by omega))) (fun _ => ?_)
    refine mh_aload_0 dX7_layRows_176 (q := 177) rfl ?_
    refine mh_getR fl_X7_98 dX7_layRows_177 (q := 180) rfl (shX7_0 h7) rfl ?_
    refine mh_iload_4 dX7_layRows_180 (q := 182) rfl ?_
    refine mh_dup2ir dX7_layRows_182 (q := 183) rfl ?_
    refine mh_lald dX7_layRows_183 (q := 184) rfl (shX7_30 h7) (vp_in_nI (by omega) (by decide)) ?_
    rw [hJ]
    refine mh_iload_4 dX7_layRows_184 (q := 186) rfl ?_
    refine mh_iload_5 dX7_layRows_186 (q := 188) rfl ?_
    refine mh_callS2 ca_X7_layRows_188 (q := 191) rfl (by simp [Value.category]) ⟨Nat.zero_le _, Nat.zero_le _⟩ ?_
    refine sp_X7_has (fun ch => ?_) (fun ch => ?_)
    · skip
      have tb : s.testBit q = true := Decidable.byContradiction (fun z => by rw [nI_tb (by omega), if_neg z] at ch; exact absurd ch (by decide))
      refine mh_if_eq dX7_layRows_191 (tgt := 198) (q := 194) rfl rfl (fun hh => False.elim (by revert hh; decide)) (fun _ => ?_)
      refine mh_lconst_0 dX7_layRows_194 (q := 195) rfl ?_
      refine mh_goto dX7_layRows_195 (tgt := 210) rfl ?_
      refine mh_ladd dX7_layRows_210 (q := 211) rfl ?_
      first | rw [lN_add] | rw [show (0 : Int64) = lN 0 from rfl, lN_add]
      refine mh_last dX7_layRows_211 (q := 212) rfl (shX7_30 h7) (by decide) (vp_in_nI (by omega) (by decide)) ?_
      refine mh_iinc_5 (v := 1) dX7_layRows_212 (q := 215) rfl (by decide) ?_
      refine mh_goto dX7_layRows_215 (tgt := 167) rfl ?_
      rw [nI_1]
      rw [if_pos tb] at h9
      refine h9 _ (by omega) ?_ (fun y h1 h2 => ?_)
      · (rw [mhUJ_at (by omega) (by omega), if_pos ⟨rfl, rfl⟩]) <;> rfl
      · rw [mhUJ_at (by omega) (by omega), if_neg (fun z => by omega)]
        exact hT y h1 h2
    · skip
      have tb : ¬ s.testBit q = true := fun z => ch (by rw [nI_tb (by omega), if_pos z])
      have og := or_gt (show s < 2 ^ n by omega) (show q < n by omega) (by simpa using tb)
      refine mh_if_eq dX7_layRows_191 (tgt := 198) (q := 194) rfl rfl (fun _ => ?_) (fun hh => False.elim (by revert hh; decide))
      refine mh_aload_0 dX7_layRows_198 (q := 199) rfl ?_
      refine mh_getR fl_X7_98 dX7_layRows_199 (q := 202) rfl (shX7_0 h7) rfl ?_
      refine mh_iload_4 dX7_layRows_202 (q := 204) rfl ?_
      refine mh_iconst_1 dX7_layRows_204 (q := 205) rfl ?_
      refine mh_iload_5 dX7_layRows_205 (q := 207) rfl ?_
      refine mh_ishl dX7_layRows_207 (q := 208) rfl ?_
      refine mh_ior dX7_layRows_208 (q := 209) rfl ?_
      rw [nI_or (by omega)]
      refine mh_lald dX7_layRows_209 (q := 210) rfl (shX7_30 h7) (vp_in_nI (by omega) (by decide)) ?_
      rw [hT _ og.2 (by omega)]
      refine mh_ladd dX7_layRows_210 (q := 211) rfl ?_
      first | rw [lN_add] | rw [show (0 : Int64) = lN 0 from rfl, lN_add]
      refine mh_last dX7_layRows_211 (q := 212) rfl (shX7_30 h7) (by decide) (vp_in_nI (by omega) (by decide)) ?_
      refine mh_iinc_5 (v := 1) dX7_layRows_212 (q := 215) rfl (by decide) ?_
      refine mh_goto dX7_layRows_215 (tgt := 167) rfl ?_
      rw [nI_1]
      rw [if_neg tb] at h9
      rw [Nat.add_assoc]
      refine h9 _ (by omega) ?_ (fun y h1 h2 => ?_)
      · (rw [mhUJ_at (by omega) (by omega), if_pos ⟨rfl, rfl⟩]) <;> rfl
      · rw [mhUJ_at (by omega) (by omega), if_neg (fun z => by omega)]
        exact hT y h1 h2
set_option maxHeartbeats 4000000 in
set_option maxRecDepth 100000 in
theorem lp_X7_layG {l : Launch} {K : mhX} {kc ks : Nat} {Φ : mhQ} {S : List mhS} {P : mhP} {F : mhF} {I0 : mhI} {J : mhJ} (h7 : mhKX7 S) {j j2 w h n : Nat} {kf kt : Nat → Int32} {un : Nat → Nat} (hm : mhHm I0 j w h) (hj2 : j2 < 3) (hjj : j ≠ j2) (hk : mhKn I0 j w h kf) (hk2 : mhKn I0 j2 w h kt) (hn : n ≤ 10) (hun : ∀ i, i < n → un i < gSides w h) (hinc : ∀ i j, i < j → j < n → un i < un j) (hu : ulM F I0 n un) (hΦ : ∀ I2 : mhI, (∀ b y, b ≠ 47 → b ≠ 50 → I2 b y = I0 b y) → Φ none S F I2 J P) {o5 : Option Value} : ∀ (m q : Nat) (I : mhI), q + m = n → lrS I0 j n un I → (∀ y, (∀ x, q ≤ x → x < n → y ≠ nI (50 * j + un x)) → I 27 y = I0 27 y) → mhV l K mX7_layRows kc ks Φ 227 [some (.ref 21), some (.int (nI j)), some (.int (nI j2)), some (.int (nI (2 ^ n))), some (.int (nI q)), o5] [] S F I J P := by
  have hbd := gBd hm.2.1
  have hj := hm.1
  intro m
  induction m with
  | zero =>
    intro q I hq hf hp
    obtain rfl : q = n := by omega
    refine mh_iload_4 dX7_layRows_227 (q := 229) rfl ?_
    refine mh_aload_0 dX7_layRows_229 (q := 230) rfl ?_
    refine mh_getI fl_X7_261 dX7_layRows_230 (q := 233) rfl (shX7_0 h7) rfl ?_
    rw [hu.1]
    refine mh_icmp_ge dX7_layRows_233 (tgt := 266) (q := 236) rfl rfl (fun _ => ?_) (fun hh => absurd (nI_le (Nat.le_refl _) (by omega)) hh)
    refine mh_return dX7_layRows_266 rfl ?_
    exact hΦ I (fun b y e1 e2 => by
      by_cases c : b = 27
      · subst c; exact hp y (fun x h1 h2 => by omega)
      · exact hf.1 b y e1 c e2)
  | succ m ih =>
    intro q I hq hf hp
    have uq := hun q (by omega)
    refine mh_iload_4 dX7_layRows_227 (q := 229) rfl ?_
    refine mh_aload_0 dX7_layRows_229 (q := 230) rfl ?_
    refine mh_getI fl_X7_261 dX7_layRows_230 (q := 233) rfl (shX7_0 h7) rfl ?_
    rw [hu.1]
    refine mh_icmp_ge dX7_layRows_233 (tgt := 266) (q := 236) rfl rfl (fun hh => absurd hh (nI_ge (by omega) (by omega))) (fun _ => ?_)
    refine mh_aload_0 dX7_layRows_236 (q := 237) rfl ?_
    refine mh_getR fl_X7_25 dX7_layRows_237 (q := 240) rfl (shX7_0 h7) rfl ?_
    refine mh_bipush (v := 50) dX7_layRows_240 (q := 242) rfl (by decide) ?_
    refine mh_iload_1 dX7_layRows_242 (q := 243) rfl ?_
    refine mh_imul dX7_layRows_243 (q := 244) rfl ?_
    refine mh_aload_0 dX7_layRows_244 (q := 245) rfl ?_
    refine mh_getR fl_X7_92 dX7_layRows_245 (q := 248) rfl (shX7_0 h7) rfl ?_
    refine mh_iload_4 dX7_layRows_248 (q := 250) rfl ?_
    refine mh_iald dX7_layRows_250 (q := 251) rfl (shX7_28 h7) (vp_in_nI (by omega) (by decide)) ?_
    rw [hf.1 49 _ (by decide) (by decide) (by decide), hu.2 q (by omega)]
    refine mh_iadd dX7_layRows_251 (q := 252) rfl ?_
    rw [mh_e50]
    refine mh_aload_0 dX7_layRows_252 (q := 253) rfl ?_
    refine mh_getR fl_X7_95 dX7_layRows_253 (q := 256) rfl (shX7_0 h7) rfl ?_
    refine mh_iload_4 dX7_layRows_256 (q := 258) rfl ?_
    refine mh_iald dX7_layRows_258 (q := 259) rfl (shX7_29 h7) (vp_in_nI (by omega) (by decide)) ?_
    rw [hf.2.2 q (by omega)]
    refine mh_iast dX7_layRows_259 (q := 260) rfl (shX7_6 h7) (by decide) (vp_in_nI (by omega) (by decide)) ?_
    refine mh_iinc_4 (v := 1) dX7_layRows_260 (q := 263) rfl (by decide) ?_
    refine mh_goto dX7_layRows_263 (tgt := 227) rfl ?_
    rw [nI_1]
    refine ih (q + 1) _ (by omega) (hf.up (by omega)) (fun y hy => ?_)
    unfold mhUI
    by_cases e : y = nI (50 * j + un q)
    · rw [if_pos ⟨rfl, e⟩, e]
    · rw [if_neg (fun z => e z.2)]
      refine hp y (fun x h1 h2 => ?_)
      rcases Nat.lt_or_ge q x with u | u
      · exact hy x u h2
      · rw [show x = q by omega]; exact e
set_option maxHeartbeats 4000000 in
set_option maxRecDepth 100000 in
theorem lp_X7_layD {l : Launch} {K : mhX} {kc ks : Nat} {Φ : mhQ} {S : List mhS} {P : mhP} {F : mhF} {I0 : mhI} (h7 : mhKX7 S) {j j2 w h n : Nat} {kf kt : Nat → Int32} {un : Nat → Nat} (hm : mhHm I0 j w h) (hj2 : j2 < 3) (hjj : j ≠ j2) (hk : mhKn I0 j w h kf) (hk2 : mhKn I0 j2 w h kt) (hn : n ≤ 10) (hun : ∀ i, i < n → un i < gSides w h) (hinc : ∀ i j, i < j → j < n → un i < un j) (hu : ulM F I0 n un) (hΦ : ∀ (I2 : mhI) (J2 : mhJ), (∀ b y, b ≠ 47 → b ≠ 50 → I2 b y = I0 b y) → (∀ y, y < 2 ^ n → J2 51 (nI y) = lN ((rwT w h kf kt un n (2 ^ n)) y)) → Φ none S F I2 J2 P) : ∀ (q m : Nat) (I : mhI) (J : mhJ) (o5 : Option Value), m + q = 2 ^ n → lrS I0 j n un I → (∀ y, y < 2 ^ n → 2 ^ n - m ≤ y → J 51 (nI y) = lN ((rwT w h kf kt un n m) y)) → mhV l K mX7_layRows kc ks Φ 50 [some (.ref 21), some (.int (nI j)), some (.int (nI j2)), some (.int (nI (2 ^ n))), some (.int (nI (2 ^ n - m) - 1)), o5] [] S F I J P := by
  have hbd := gBd hm.2.1
  have hj := hm.1
  have p2 : 2 ^ n ≤ 2 ^ 10 := Nat.pow_le_pow_right (by decide) hn
  have p0 : 0 < 2 ^ n := Nat.two_pow_pos n
  intro q
  induction q with
  | zero =>
    intro m I J o5 hm2 hf hT
    obtain rfl : m = 2 ^ n := by omega
    refine mh_iload_4 dX7_layRows_50 (q := 52) rfl ?_
    refine mh_if_lt dX7_layRows_52 (tgt := 224) (q := 55) rfl rfl (fun _ => ?_) (fun hh => absurd (show nI (2 ^ n - 2 ^ n) - 1 < (0 : Int32) by rw [Nat.sub_self]; decide) hh)
    refine mh_iconst_0 dX7_layRows_224 (q := 225) rfl ?_
    refine mh_istore_4 dX7_layRows_225 (q := 227) rfl ?_
    exact lp_X7_layG h7 hm hj2 hjj hk hk2 hn hun hinc hu (fun I2 g2 => hΦ I2 J g2 (fun y hy => hT y hy (by omega))) n 0 I (Nat.zero_add _) hf (fun y hy => hf.2.1 y (fun x hx => hy x (Nat.zero_le _) hx))
  | succ q ih =>
    intro m I J o5 hm2 hf hT
    have e1 : nI (2 ^ n - m) - 1 = nI (2 ^ n - 1 - m) := by rw [show 2 ^ n - m = (2 ^ n - 1 - m) + 1 by omega, ← nI_1]; grind
    obtain ⟨s, hs⟩ : ∃ s, s = 2 ^ n - 1 - m := ⟨_, rfl⟩
    have hs2 : s < 2 ^ n := by omega
    rw [e1, ← hs]
    have h9 := ih (m + 1)
    have rs : (rwT w h kf kt un n (m + 1)) s = @ite _ (fair w h (csF kf kt un s n)) (Classical.propDecidable _) (if m = 0 then 1 else rwS (rwT w h kf kt un n m) s n) 0 := rwT_e hs
    refine mh_iload_4 dX7_layRows_50 (q := 52) rfl ?_
    refine mh_if_lt dX7_layRows_52 (tgt := 224) (q := 55) rfl rfl (fun hh => absurd hh (nI_pos (by omega))) (fun _ => ?_)
    refine mh_iconst_0 dX7_layRows_55 (q := 56) rfl ?_
    refine mh_istore_5 dX7_layRows_56 (q := 58) rfl ?_
    refine lp_X7_layK h7 hm hj2 hjj hk hk2 hn hun hinc hu hs2 (fun I2 hf2 hp2 => ?_) n 0 I (Nat.zero_add _) hf (fun x hx hxx => by
      rcases hxx with ⟨y, hy, _⟩ | hxx
      · exact absurd hy (Nat.not_lt_zero y)
      · exact (hf.2.1 _ (fun y hy e => hxx y hy (by
          have t := hun y hy
          have := (nI_eq (by omega) (by omega)).mp e
          omega))).trans (hk x hx))
    have hks : mhKn I2 j w h (csF kf kt un s n) := fun x hx => hp2 x hx (by
      by_cases z : ∃ y, y < n ∧ un y = x
      · exact Or.inl z
      · exact Or.inr (fun y hy e => z ⟨y, hy, e⟩))
    refine mh_aload_0 dX7_layRows_127 (q := 128) rfl ?_
    refine mh_getR fl_X7_98 dX7_layRows_128 (q := 131) rfl (shX7_0 h7) rfl ?_
    refine mh_iload_4 dX7_layRows_131 (q := 133) rfl ?_
    refine mh_lconst_0 dX7_layRows_133 (q := 134) rfl ?_
    refine mh_last dX7_layRows_134 (q := 135) rfl (shX7_30 h7) (by decide) (vp_in_nI (by omega) (by decide)) ?_
    refine mh_aload_0 dX7_layRows_135 (q := 136) rfl ?_
    refine mh_iload_1 dX7_layRows_136 (q := 137) rfl ?_
    refine mh_callV1 ca_X7_layRows_137 (shX7_0 h7) (q := 140) rfl (by simp [Value.category]) ⟨Nat.zero_le _, Nat.zero_le _⟩ ?_
    refine sp_X7_shutOf h7 (hf2.hm hm) hks (fun y I3 hy g3 ha => ?_)
    refine mh_bipush (v := (-9)) dX7_layRows_140 (q := 142) rfl (by decide) ?_
    refine mh_icmp_eq dX7_layRows_142 (tgt := 148) (q := 145) rfl rfl (fun c142 => ?_) (fun c142 => ?_)
    · skip
      have hfair : fair w h (csF kf kt un s n) := by
        rcases hy with ⟨r2, q1, q2, q3, q4⟩ | q
        · rw [c142] at q2; exact absurd q2.symm (mh_n9 (by omega))
        · exact q.2
      refine mh_iload_4 dX7_layRows_148 (q := 150) rfl ?_
      refine mh_iload_3 dX7_layRows_150 (q := 151) rfl ?_
      refine mh_iconst_1 dX7_layRows_151 (q := 152) rfl ?_
      refine mh_isub dX7_layRows_152 (q := 153) rfl ?_
      rw [show nI (2 ^ n) - 1 = nI (2 ^ n - 1) from pk_sub (b := 1) p0]
      refine mh_icmp_ne dX7_layRows_153 (tgt := 164) (q := 156) rfl rfl (fun c153 => ?_) (fun c153 => ?_)
      · skip
        rw [nI_eq (by omega) (by omega)] at c153
        have em : ¬ m = 0 := by omega
        refine mh_iconst_0 dX7_layRows_164 (q := 165) rfl ?_
        refine mh_istore_5 dX7_layRows_165 (q := 167) rfl ?_
        refine lp_X7_layS h7 hm hj2 hjj hk hk2 hn hun hinc hu (B := 0) hs (by omega) (hf2.f47 g3) (fun J3 hJ3 hT3 => ?_) n 0 _ (Nat.zero_add _) (by rw [mhUJ_at (by omega) (by omega), if_pos ⟨rfl, rfl⟩]; rfl) (fun y h1 h2 => by rw [mhUJ_at (by omega) (by omega), if_neg (fun z => by omega)]; exact hT y h1 h2)
        refine mh_iinc_4 (v := (-1)) dX7_layRows_218 (q := 221) rfl (by decide) ?_
        refine mh_goto dX7_layRows_221 (tgt := 50) rfl ?_
        rw [show nI s + -1 = nI (2 ^ n - (m + 1)) - 1 from by rw [show 2 ^ n - (m + 1) = s by omega]; grind]
        refine h9 _ J3 _ (by omega) (hf2.f47 g3) (fun y hy hy2 => ?_)
        by_cases e : y = s
        · rw [e, rs, @if_pos _ (Classical.propDecidable _) hfair]
          rw [if_neg em, hJ3, Nat.zero_add]
        · rw [hT3 y hy (by omega), rwT_n (by omega)]
      · skip
        rw [nI_eq (by omega) (by omega)] at c153
        have em : m = 0 := by omega
        refine mh_aload_0 dX7_layRows_156 (q := 157) rfl ?_
        refine mh_getR fl_X7_98 dX7_layRows_157 (q := 160) rfl (shX7_0 h7) rfl ?_
        refine mh_iload_4 dX7_layRows_160 (q := 162) rfl ?_
        refine mh_lconst_1 dX7_layRows_162 (q := 163) rfl ?_
        refine mh_last dX7_layRows_163 (q := 164) rfl (shX7_30 h7) (by decide) (vp_in_nI (by omega) (by decide)) ?_
        refine mh_iconst_0 dX7_layRows_164 (q := 165) rfl ?_
        refine mh_istore_5 dX7_layRows_165 (q := 167) rfl ?_
        refine lp_X7_layS h7 hm hj2 hjj hk hk2 hn hun hinc hu (B := 1) hs (by omega) (hf2.f47 g3) (fun J3 hJ3 hT3 => ?_) n 0 _ (Nat.zero_add _) (by rw [mhUJ_at (by omega) (by omega), if_pos ⟨rfl, rfl⟩]; rfl) (fun y h1 h2 => by rw [mhUJ_at (by omega) (by omega), if_neg (fun z => by omega), mhUJ_at (by omega) (by omega), if_neg (fun z => by omega)]; exact hT y h1 h2)
        refine mh_iinc_4 (v := (-1)) dX7_layRows_218 (q := 221) rfl (by decide) ?_
        refine mh_goto dX7_layRows_221 (tgt := 50) rfl ?_
        rw [show nI s + -1 = nI (2 ^ n - (m + 1)) - 1 from by rw [show 2 ^ n - (m + 1) = s by omega]; grind]
        refine h9 _ J3 _ (by omega) (hf2.f47 g3) (fun y hy hy2 => ?_)
        by_cases e : y = s
        · rw [e, rs, @if_pos _ (Classical.propDecidable _) hfair]
          rw [if_pos em, hJ3, em]
          have z0 : ∀ k, rwS (rwT w h kf kt un n 0) s k = 0 := fun k => by
            induction k with
            | zero => rfl
            | succ k ihk =>
              show rwS (rwT w h kf kt un n 0) s k + (if s.testBit k = true then 0 else 0) = 0
              rw [ihk]
              split <;> rfl
          rw [z0]
        · rw [hT3 y hy (by omega), rwT_n (by omega)]
    · skip
      have hnf : ¬ fair w h (csF kf kt un s n) := by
        intro z
        rcases hy with ⟨r2, q1, q2, q3, q4⟩ | q
        · obtain ⟨d, zd⟩ := z r2 q1
          exact q3 d zd
        · exact c142 q.1
      refine mh_goto dX7_layRows_145 (tgt := 218) rfl ?_
      refine mh_iinc_4 (v := (-1)) dX7_layRows_218 (q := 221) rfl (by decide) ?_
      refine mh_goto dX7_layRows_221 (tgt := 50) rfl ?_
      rw [show nI s + -1 = nI (2 ^ n - (m + 1)) - 1 from by rw [show 2 ^ n - (m + 1) = s by omega]; grind]
      refine h9 _ _ _ (by omega) (hf2.f47 g3) (fun y hy hy2 => ?_)
      by_cases e : y = s
      · rw [e, rs, @if_neg _ (Classical.propDecidable _) hnf]
        rw [mhUJ_at (by omega) (by omega), if_pos ⟨rfl, rfl⟩]
        rfl
      · rw [mhUJ_at (by omega) (by omega), if_neg (fun z => e z.2), rwT_n (by omega)]
        exact hT y hy (by omega)
set_option maxHeartbeats 4000000 in
set_option maxRecDepth 100000 in
theorem sp_X7_layRows {l : Launch} {K : mhX} {Φ : mhQ} {S : List mhS} {F : mhF} {I : mhI} {J : mhJ} {P : mhP} (h7 : mhKX7 S) {j j2 w h n : Nat} {kf kt : Nat → Int32} {un : Nat → Nat} (hm : mhHm I j w h) (hj2 : j2 < 3) (hjj : j ≠ j2) (hk : mhKn I j w h kf) (hk2 : mhKn I j2 w h kt) (hn : n ≤ 10) (hun : ∀ i, i < n → un i < gSides w h) (hinc : ∀ i j, i < j → j < n → un i < un j) (hu : ulM F I n un) (hΦ : ∀ (I2 : mhI) (J2 : mhJ), (∀ b y, b ≠ 47 → b ≠ 50 → I2 b y = I b y) → (∀ y, y < 2 ^ n → J2 51 (nI y) = lN ((rwT w h kf kt un n (2 ^ n)) y)) → Φ none S F I2 J2 P) : mhOk l K mX7_layRows [.ref 21, .int (nI j), .int (nI j2)] S F I J P Φ := by
  refine mhOk.of (by decide) (by decide) rfl (Nat.le_of_ble_eq_true rfl) ?_
  refine mh_iconst_0 dX7_layRows_0 (q := 1) rfl ?_
  refine mh_istore_3 dX7_layRows_1 (q := 2) rfl ?_
  have ep := pw10 n (List.mem_range.mpr (by omega))
  have p0 : 0 < 2 ^ n := Nat.two_pow_pos n
  refine lp_X7_layA (kc := mX7_layRows.2.2.2.2.cells) (ks := mX7_layRows.2.2.2.2.slots) h7 hm hj2 hjj hk hk2 hn hun hinc hu (fun I1 hf1 _ => ?_) n 0 I (Nat.zero_add _) (fun _ _ _ => rfl) (fun x hx => absurd hx (Nat.not_lt_zero x))
  refine mh_iconst_1 dX7_layRows_38 (q := 39) rfl ?_
  refine mh_aload_0 dX7_layRows_39 (q := 40) rfl ?_
  refine mh_getI fl_X7_261 dX7_layRows_40 (q := 43) rfl (shX7_0 h7) rfl ?_
  rw [hu.1]
  refine mh_ishl dX7_layRows_43 (q := 44) rfl ?_
  rw [ep]
  refine mh_istore_3 dX7_layRows_44 (q := 45) rfl ?_
  refine mh_iload_3 dX7_layRows_45 (q := 46) rfl ?_
  refine mh_iconst_1 dX7_layRows_46 (q := 47) rfl ?_
  refine mh_isub dX7_layRows_47 (q := 48) rfl ?_
  refine mh_istore_4 dX7_layRows_48 (q := 50) rfl ?_
  refine mhV_lo (lo := [some (.ref 21), some (.int (nI j)), some (.int (nI j2)), some (.int (nI (2 ^ n))), some (.int (nI (2 ^ n - 0) - 1)), none]) rfl (lp_X7_layD (kc := mX7_layRows.2.2.2.2.cells) (ks := mX7_layRows.2.2.2.2.slots) h7 hm hj2 hjj hk hk2 hn hun hinc hu hΦ (2 ^ n) 0 I1 J none (Nat.zero_add _) hf1 (fun y h1 h2 => absurd h1 (by omega)))
