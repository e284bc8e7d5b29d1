/-! houses changed, by the class -/
def frP (a : Nat) (F : mhF) (I : mhI) (F' : mhF) (I' : mhI) : Prop := (∀ b k, ¬ (b = a ∧ 9 ≤ k ∧ k < 13) → ¬ (b = 10 ∧ k = 1) → F' b k = F b k) ∧ ∀ b y, ¬ (a + 7 ≤ b ∧ b ≤ a + 9) → b ≠ 11 → b ≠ 12 → I' b y = I b y
theorem frP.rf {a : Nat} {F : mhF} {I : mhI} : frP a F I F I := ⟨fun _ _ _ _ => rfl, fun _ _ _ _ _ => rfl⟩
theorem frP.tr {a : Nat} {F F1 F2 : mhF} {I I1 I2 : mhI} (h : frP a F I F1 I1) (h2 : frP a F1 I1 F2 I2) : frP a F I F2 I2 := ⟨fun b k e1 e2 => (h2.1 b k e1 e2).trans (h.1 b k e1 e2), fun b y e1 e2 e3 => (h2.2 b y e1 e2 e3).trans (h.2 b y e1 e2 e3)⟩
theorem frH.p {a : Nat} {F F1 : mhF} {I I1 : mhI} (h : frH a F I F1 I1) : frP a F I F1 I1 := ⟨fun b k e _ => h.1 b k e, fun b y e _ _ => h.2 b y e⟩
theorem mhHs.frp {S : List mhS} {F F' : mhF} {I I' : mhI} {a w h : Nat} (hf : frP a F I F' I') (H : mhHs S F I a w h) : mhHs S F' I' a w h := by
  obtain ⟨h1, h2, h3, h4, h5, h6, h7, h8, h9, h10, h11⟩ := H
  exact ⟨h1, h2, (hf.1 _ _ (by omega) (by omega)).trans h3, (hf.1 _ _ (by omega) (by omega)).trans h4, (hf.1 _ _ (by omega) (by omega)).trans h5, (hf.1 _ _ (by omega) (by omega)).trans h6, fun b hb j => (hf.2 _ j (by omega) (by omega) (by omega)).trans (h7 b hb j), (hf.2 _ _ (by omega) (by omega) (by omega)).trans h8, (hf.2 _ _ (by omega) (by omega) (by omega)).trans h9, (hf.2 _ _ (by omega) (by omega) (by omega)).trans h10, h11⟩
theorem mhPn.frp {F F' : mhF} {I I' : mhI} {a w h : Nat} {kd : Nat → Int32} (hf : frP a F I F' I') (ha : 52 ≤ a) (H : mhPn I a w h kd) : mhPn I' a w h kd := fun k hk => (hf.2 _ _ (by omega) (by omega) (by omega)).trans (H k hk)
theorem mhHs.frpo {S : List mhS} {F F' : mhF} {I I' : mhI} {a b w h : Nat} (hab : a + 11 ≤ b ∨ b + 11 ≤ a) (hf : frP a F I F' I') (H : mhHs S F I b w h) : mhHs S F' I' b w h := by
  obtain ⟨h1, h2, h3, h4, h5, h6, h7, h8, h9, h10, h11⟩ := H
  exact ⟨h1, h2, (hf.1 _ _ (by omega) (by omega)).trans h3, (hf.1 _ _ (by omega) (by omega)).trans h4, (hf.1 _ _ (by omega) (by omega)).trans h5, (hf.1 _ _ (by omega) (by omega)).trans h6, fun c hc j => (hf.2 _ j (by omega) (by omega) (by omega)).trans (h7 c hc j), (hf.2 _ _ (by omega) (by omega) (by omega)).trans h8, (hf.2 _ _ (by omega) (by omega) (by omega)).trans h9, (hf.2 _ _ (by omega) (by omega) (by omega)).trans h10, h11⟩
theorem mhPn.frpo {F F' : mhF} {I I' : mhI} {a b w h : Nat} {kd : Nat → Int32} (hab : a + 11 ≤ b ∨ b + 11 ≤ a) (hf : frP a F I F' I') (hb : 52 ≤ b) (H : mhPn I b w h kd) : mhPn I' b w h kd := fun k hk => (hf.2 _ _ (by omega) (by omega) (by omega)).trans (H k hk)
/-- the sides that are not alike, as the class has them -/
def ulC (F : mhF) (I : mhI) (n : Nat) (un : Nat → Nat) : Prop := F 10 1 = nI n ∧ ∀ i, i < n → I 11 (nI i) = nI (un i)
theorem ulC.frh {F F' : mhF} {I I' : mhI} {a n : Nat} {un : Nat → Nat} (hf : frH a F I F' I') (ha : 52 ≤ a) (H : ulC F I n un) : ulC F' I' n un := ⟨(hf.1 _ _ (by omega)).trans H.1, fun i hi => (hf.2 _ _ (by omega)).trans (H.2 i hi)⟩
set_option maxHeartbeats 4000000 in
set_option maxRecDepth 100000 in
theorem lp_X1_isFairWith {l : Launch} {K : mhX} {kc ks : Nat} {Φ : mhQ} {S : List mhS} {J : mhJ} {P : mhP} {F : mhF} (h0 : mhKX0 S) {a b w h n s : Nat} {kf kt : Nat → Int32} {un : Nat → Nat} (hab : a + 11 ≤ b ∨ b + 11 ≤ a) (hn : n ≤ 10) (hs : s < 2 ^ n) (hun : ∀ i, i < n → un i < gSides w h) (hinc : ∀ i j, i < j → j < n → un i < un j) : ∀ (m k : Nat) (I : mhI), k + m = n → mhHs S F I a w h → mhHs S F I b w h → mhPn I b w h kt → ulC F I n un → (∀ x, x < gSides w h → I (a + 7) (nI x) = csF kf kt un s k x) → (fair w h (csF kf kt un s n) → ∀ I2 : mhI, frH a F I F I2 → Φ (some (.int 1)) S F I2 J P) → (¬ fair w h (csF kf kt un s n) → ∀ I2 : mhI, frH a F I F I2 → Φ (some (.int 0)) S F I2 J P) → mhV l K mX1_isFairWith kc ks Φ 20 [some (.ref a), some (.ref b), some (.ref 11), some (.int (nI n)), some (.int (nI s)), some (.int (nI k))] [] S F I J P := by
  intro m
  induction m with
  | zero =>
    intro k I hk hH hG hp hu ht7 ht hf
    obtain rfl : k = n := by omega
    refine mh_iload_5 dX1_isFairWith_20 (q := 22) rfl ?_
    refine mh_iload_3 dX1_isFairWith_22 (q := 23) rfl ?_
    refine mh_icmp_ge dX1_isFairWith_23 (tgt := 61) (q := 26) rfl rfl (fun _ => ?_) (fun hh => absurd (nI_le (Nat.le_refl _) (by omega)) hh)
    refine mh_aload_0 dX1_isFairWith_61 (q := 62) rfl ?_
    refine mh_callV0 ca_X1_isFairWith_62 (shX1_0 hH.1) (q := 65) rfl (by simp [Value.category]) ⟨Nat.zero_le _, Nat.zero_le _⟩ ?_
    refine sp_X1_isTrialFair hH ht7 (fun z I2 g2 _ => ?_) (fun z I2 g2 _ => ?_)
    · skip
      refine mh_ireturn dX1_isFairWith_65 rfl rfl ?_
      exact ht z I2 g2
    · skip
      refine mh_ireturn dX1_isFairWith_65 rfl rfl ?_
      exact hf z I2 g2
  | succ m ih =>
    intro k I hk hH hG hp hu ht7 ht hf
    have hbd := gBd hH.2.1
    have hkn : k < n := by omega
    have uk := hun k hkn
    have eu := hu.2 k hkn
    refine mh_iload_5 dX1_isFairWith_20 (q := 22) rfl ?_
    refine mh_iload_3 dX1_isFairWith_22 (q := 23) rfl ?_
    refine mh_icmp_ge dX1_isFairWith_23 (tgt := 61) (q := 26) rfl rfl (fun hh => absurd hh (nI_ge (by omega) (by omega))) (fun _ => ?_)
    refine mh_iload_4 dX1_isFairWith_26 (q := 28) rfl ?_
    refine mh_iload_5 dX1_isFairWith_28 (q := 30) rfl ?_
    refine mh_ishr dX1_isFairWith_30 (q := 31) rfl ?_
    refine mh_iconst_1 dX1_isFairWith_31 (q := 32) rfl ?_
    refine mh_iand dX1_isFairWith_32 (q := 33) rfl ?_
    rw [nI_tb (by omega)]
    refine mh_iconst_1 dX1_isFairWith_33 (q := 34) rfl ?_
    refine mh_icmp_ne dX1_isFairWith_34 (tgt := 55) (q := 37) rfl rfl (fun c34 => ?_) (fun c34 => ?_)
    · skip
      refine mh_iinc_5 (v := 1) dX1_isFairWith_55 (q := 58) rfl (by decide) ?_
      refine mh_goto dX1_isFairWith_58 (tgt := 20) rfl ?_
      rw [nI_1]
      have tb : ¬ s.testBit k = true := fun z => by rw [if_pos z] at c34; exact absurd rfl c34
      refine ih (k + 1) I (by omega) hH hG hp hu (fun x hx => ?_) ht hf
      rw [csF_s, if_neg tb, ht7 x hx]
      by_cases e : x = un k
      · rw [if_pos e, e, csF_off (fun y hy q => by have := hinc y k hy hkn; omega)]
      · rw [if_neg e]
    · skip
      refine mh_aload_0 dX1_isFairWith_37 (q := 38) rfl ?_
      refine mh_getR fl_X1_43 dX1_isFairWith_38 (q := 41) rfl (shX1_0 hH.1) rfl ?_
      refine mh_aload_2 dX1_isFairWith_41 (q := 42) rfl ?_
      refine mh_iload_5 dX1_isFairWith_42 (q := 44) rfl ?_
      refine mh_iald dX1_isFairWith_44 (q := 45) rfl (shX0_1 h0) (vp_in_nI (by omega) (by decide)) ?_
      rw [eu]
      refine mh_aload_1 dX1_isFairWith_45 (q := 46) rfl ?_
      refine mh_getR fl_X1_9 dX1_isFairWith_46 (q := 49) rfl (shX1_0 hG.1) rfl ?_
      refine mh_aload_2 dX1_isFairWith_49 (q := 50) rfl ?_
      refine mh_iload_5 dX1_isFairWith_50 (q := 52) rfl ?_
      refine mh_iald dX1_isFairWith_52 (q := 53) rfl (shX0_1 h0) (vp_in_nI (by omega) (by decide)) ?_
      rw [eu]
      refine mh_iald dX1_isFairWith_53 (q := 54) rfl (shX1_1 hG.1) (vp_in_nI (by omega) (by decide)) ?_
      rw [hp _ uk]
      refine mh_iast dX1_isFairWith_54 (q := 55) rfl (shX1_7 hH.1) (by decide) (vp_in_nI (by omega) (by decide)) ?_
      refine mh_iinc_5 (v := 1) dX1_isFairWith_55 (q := 58) rfl (by decide) ?_
      refine mh_goto dX1_isFairWith_58 (tgt := 20) rfl ?_
      rw [nI_1]
      have tb : s.testBit k = true := Decidable.byContradiction (fun z => by rw [if_neg z] at c34; exact absurd c34 (by decide))
      have hfr : frH a F I F (mhUI I (a + 7) (nI (un k)) (kt (un k))) := ⟨fun _ _ _ => rfl, fun c y e => mhUI_ne (by omega)⟩
      refine ih (k + 1) _ (by omega) (hH.frh hfr) (hG.frpo hab hfr.p) (hp.frpo hab hfr.p hG.2.2.2.2.2.2.2.2.2.2) (hu.frh hfr hH.2.2.2.2.2.2.2.2.2.2) (fun x hx => ?_) (fun z I3 g3 => ht z I3 (hfr.tr g3)) (fun z I3 g3 => hf z I3 (hfr.tr g3))
      rw [mhUI_at (by omega) (by omega), csF_s, if_pos tb]
      by_cases e : x = un k
      · rw [if_pos ⟨rfl, e⟩, if_pos e, e]
      · rw [if_neg (fun z => e z.2), if_neg e]; exact ht7 x hx
set_option maxHeartbeats 4000000 in
set_option maxRecDepth 100000 in
theorem sp_X1_isFairWith {l : Launch} {K : mhX} {Φ : mhQ} {S : List mhS} {F : mhF} {I : mhI} {J : mhJ} {P : mhP} (h0 : mhKX0 S) {a b w h n s : Nat} {kf kt : Nat → Int32} {un : Nat → Nat} (hab : a + 11 ≤ b ∨ b + 11 ≤ a) (hn : n ≤ 10) (hs : s < 2 ^ n) (hun : ∀ i, i < n → un i < gSides w h) (hinc : ∀ i j, i < j → j < n → un i < un j) (hH : mhHs S F I a w h) (hG : mhHs S F I b w h) (hp : mhPn I a w h kf) (hq : mhPn I b w h kt) (hu : ulC F I n un) (ht : fair w h (csF kf kt un s n) → ∀ I2 : mhI, frH a F I F I2 → Φ (some (.int 1)) S F I2 J P) (hf : ¬ fair w h (csF kf kt un s n) → ∀ I2 : mhI, frH a F I F I2 → Φ (some (.int 0)) S F I2 J P) : mhOk l K mX1_isFairWith [.ref a, .ref b, .ref 11, .int (nI n), .int (nI s)] S F I J P Φ := by
  refine mhOk.of (by decide) (by decide) rfl (Nat.le_of_ble_eq_true rfl) ?_
  have hbd := gBd hH.2.1
  refine mh_aload_0 dX1_isFairWith_0 (q := 1) rfl ?_
  refine mh_getR fl_X1_9 dX1_isFairWith_1 (q := 4) rfl (shX1_0 hH.1) rfl ?_
  refine mh_iconst_0 dX1_isFairWith_4 (q := 5) rfl ?_
  refine mh_aload_0 dX1_isFairWith_5 (q := 6) rfl ?_
  refine mh_getR fl_X1_43 dX1_isFairWith_6 (q := 9) rfl (shX1_0 hH.1) rfl ?_
  refine mh_iconst_0 dX1_isFairWith_9 (q := 10) rfl ?_
  refine mh_aload_0 dX1_isFairWith_10 (q := 11) rfl ?_
  refine mh_getI fl_X1_68 dX1_isFairWith_11 (q := 14) rfl (shX1_0 hH.1) rfl ?_
  rw [hH.2.2.2.2.2.1]
  refine mh_copyI dX1_isFairWith_14 wd_arcL_X1_117 wd_arcN wd_arcS wd_arcI (by decide) (by decide) (by simp [Value.category]) (shX1_1 hH.1) (shX1_7 hH.1) (by decide) (by decide) (by decide) (nI_pos (by omega)) (by rw [nI_clamp (by omega)]; show 0 + gSides w h ≤ 43; omega) (by rw [nI_clamp (by omega)]; show 0 + gSides w h ≤ 43; omega) (q := 17) rfl ?_
  refine mh_iconst_0 dX1_isFairWith_17 (q := 18) rfl ?_
  refine mh_istore_5 dX1_isFairWith_18 (q := 20) rfl ?_
  obtain ⟨I1, hI1⟩ : ∃ z, z = mhCp I (a + 1) (0 : Int32).toNatClampNeg (a + 7) (0 : Int32).toNatClampNeg (nI (gSides w h)).toNatClampNeg := ⟨_, rfl⟩
  rw [← hI1]
  rw [show (0 : Int32).toNatClampNeg = 0 from rfl, nI_clamp (by omega)] at hI1
  have hfr : frH a F I F I1 := ⟨fun _ _ _ => rfl, fun c y e => by rw [hI1]; exact if_neg (fun z => by omega)⟩
  refine lp_X1_isFairWith (kc := mX1_isFairWith.2.2.2.2.cells) (ks := mX1_isFairWith.2.2.2.2.slots) h0 hab hn hs hun hinc n 0 I1 (Nat.zero_add _) (hH.frh hfr) (hG.frpo hab hfr.p) (hq.frpo hab hfr.p hG.2.2.2.2.2.2.2.2.2.2) (hu.frh hfr hH.2.2.2.2.2.2.2.2.2.2) (fun x hx => ?_) (fun z I3 g3 => ht z I3 (hfr.tr g3)) (fun z I3 g3 => hf z I3 (hfr.tr g3))
  rw [hI1, mhCp_at (by omega), if_pos ⟨rfl, Nat.zero_le _, by omega⟩]
  exact (congrArg (I (a + 1)) (congrArg nI (by omega))).trans (hp x hx)
set_option maxHeartbeats 4000000 in
set_option maxRecDepth 100000 in
theorem lp_X0_compare {l : Launch} {K : mhX} {kc ks : Nat} {Φ : mhQ} {S : List mhS} {J : mhJ} {P : mhP} (h0 : mhKX0 S) {a b w h : Nat} {kf kt : Nat → Int32} : ∀ (m k : Nat) (F : mhF) (I : mhI), k + m = gSides w h → mhHs S F I a w h → mhHs S F I b w h → mhPn I a w h kf → mhPn I b w h kt → ulC F I (ulS kf kt k).1 (ulS kf kt k).2 → (ulS kf kt k).1 ≤ 10 → (∀ (F2 : mhF) (I2 : mhI), (ulS kf kt (gSides w h)).1 ≤ 10 → ulC F2 I2 (ulS kf kt (gSides w h)).1 (ulS kf kt (gSides w h)).2 → (∀ b k, ¬ (b = 10 ∧ k = 1) → F2 b k = F b k) → (∀ b y, b ≠ 11 → I2 b y = I b y) → Φ (some (.int 1)) S F2 I2 J P) → (∀ (F2 : mhF) (I2 : mhI), ¬ (ulS kf kt (gSides w h)).1 ≤ 10 → (∀ b k, ¬ (b = 10 ∧ k = 1) → F2 b k = F b k) → (∀ b y, b ≠ 11 → I2 b y = I b y) → Φ (some (.int 0)) S F2 I2 J P) → mhV l K mX0_compare kc ks Φ 31 [some (.ref 10), some (.ref a), some (.ref b), some (.int (nI k))] [] S F I J P := by
  intro m
  induction m with
  | zero =>
    intro k F I hk hH hG hp hq hu h10 ht hf
    have hbd := gBd hH.2.1
    obtain rfl : k = gSides w h := by omega
    refine mh_iload_3 dX0_compare_31 (q := 32) rfl ?_
    refine mh_aload_1 dX0_compare_32 (q := 33) rfl ?_
    refine mh_getI fl_X0_30 dX0_compare_33 (q := 36) rfl (shX1_0 hH.1) rfl ?_
    rw [hH.2.2.2.2.2.1]
    refine mh_icmp_ge dX0_compare_36 (tgt := 97) (q := 39) rfl rfl (fun _ => ?_) (fun hh => absurd (nI_le (Nat.le_refl _) (by omega)) hh)
    refine mh_iconst_1 dX0_compare_97 (q := 98) rfl ?_
    refine mh_ireturn dX0_compare_98 rfl rfl ?_
    exact ht F I h10 hu (fun _ _ _ => rfl) (fun _ _ _ => rfl)
  | succ m ih =>
    intro k F I hk hH hG hp hq hu h10 ht hf
    have hbd := gBd hH.2.1
    have hks : k < gSides w h := by omega
    have h9 := ih (k + 1)
    refine mh_iload_3 dX0_compare_31 (q := 32) rfl ?_
    refine mh_aload_1 dX0_compare_32 (q := 33) rfl ?_
    refine mh_getI fl_X0_30 dX0_compare_33 (q := 36) rfl (shX1_0 hH.1) rfl ?_
    rw [hH.2.2.2.2.2.1]
    refine mh_icmp_ge dX0_compare_36 (tgt := 97) (q := 39) rfl rfl (fun hh => absurd hh (nI_ge (by omega) (by omega))) (fun _ => ?_)
    refine mh_aload_1 dX0_compare_39 (q := 40) rfl ?_
    refine mh_getR fl_X0_33 dX0_compare_40 (q := 43) rfl (shX1_0 hH.1) rfl ?_
    refine mh_iload_3 dX0_compare_43 (q := 44) rfl ?_
    refine mh_iald dX0_compare_44 (q := 45) rfl (shX1_1 hH.1) (vp_in_nI (by omega) (by decide)) ?_
    rw [hp k hks]
    refine mh_aload_2 dX0_compare_45 (q := 46) rfl ?_
    refine mh_getR fl_X0_33 dX0_compare_46 (q := 49) rfl (shX1_0 hG.1) rfl ?_
    refine mh_iload_3 dX0_compare_49 (q := 50) rfl ?_
    refine mh_iald dX0_compare_50 (q := 51) rfl (shX1_1 hG.1) (vp_in_nI (by omega) (by decide)) ?_
    rw [hq k hks]
    refine mh_icmp_ne dX0_compare_51 (tgt := 57) (q := 54) rfl rfl (fun c51 => ?_) (fun c51 => ?_)
    · skip
      refine mh_aload_0 dX0_compare_57 (q := 58) rfl ?_
      refine mh_getI fl_X0_18 dX0_compare_58 (q := 61) rfl (shX0_0 h0) rfl ?_
      rw [hu.1]
      refine mh_aload_0 dX0_compare_61 (q := 62) rfl ?_
      refine mh_getR fl_X0_9 dX0_compare_62 (q := 65) rfl (shX0_0 h0) rfl ?_
      refine mh_alen (v := 10) dX0_compare_65 (q := 66) rfl (shX0_1 h0) (by decide) rfl ?_
      refine mh_icmp_lt dX0_compare_66 (tgt := 71) (q := 69) rfl rfl (fun c66 => ?_) (fun c66 => ?_)
      · skip
        refine mh_aload_0 dX0_compare_71 (q := 72) rfl ?_
        refine mh_getR fl_X0_9 dX0_compare_72 (q := 75) rfl (shX0_0 h0) rfl ?_
        refine mh_aload_0 dX0_compare_75 (q := 76) rfl ?_
        refine mh_getI fl_X0_18 dX0_compare_76 (q := 79) rfl (shX0_0 h0) rfl ?_
        rw [hu.1]
        refine mh_iload_3 dX0_compare_79 (q := 80) rfl ?_
        
        refine mh_iast dX0_compare_80 (q := 81) rfl (shX0_1 h0) (by decide) (vp_in_nI (by rw [show (10 : Int32) = nI 10 from rfl, nI_ltI (by omega) (by decide)] at c66; omega) (by decide)) ?_
        refine mh_aload_0 dX0_compare_81 (q := 82) rfl ?_
        refine mh_dupr dX0_compare_82 (q := 83) rfl ?_
        refine mh_getI fl_X0_18 dX0_compare_83 (q := 86) rfl (shX0_0 h0) rfl ?_
        rw [hu.1]
        refine mh_iconst_1 dX0_compare_86 (q := 87) rfl ?_
        refine mh_iadd dX0_compare_87 (q := 88) rfl ?_
        rw [nI_1]
        refine mh_putI (Or.inl fw_X0_18) rfl rfl dX0_compare_88 (q := 91) rfl (shX0_0 h0) rfl ?_
        refine mh_iinc_3 (v := 1) dX0_compare_91 (q := 94) rfl (by decide) ?_
        refine mh_goto dX0_compare_94 (tgt := 31) rfl ?_
        rw [nI_1]
        rw [ulS_n c51] at h9
        rw [show (10 : Int32) = nI 10 from rfl, nI_ltI (by omega) (by decide)] at c66
        have a52 := hH.2.2.2.2.2.2.2.2.2.2
        have b52 := hG.2.2.2.2.2.2.2.2.2.2
        have hfr : ∀ c, 52 ≤ c → frP c F I (mhUF F 10 1 (nI ((ulS kf kt k).1 + 1))) (mhUI I 11 (nI (ulS kf kt k).1) (nI k)) := fun c hc => ⟨fun b k _ e => mhUF_nk e, fun b y _ e _ => mhUI_ne e⟩
        refine h9 _ _ (by omega) (hH.frp (hfr a a52)) (hG.frp (hfr b b52)) (hp.frp (hfr a a52) a52) (hq.frp (hfr b b52) b52) ⟨mhUF_at, fun i hi => ?_⟩ (by dsimp only; omega) (fun F2 I2 e1 e2 e3 e4 => ht F2 I2 e1 e2 (fun b k e => (e3 b k e).trans (mhUF_nk e)) (fun b y e => (e4 b y e).trans (mhUI_ne e))) (fun F2 I2 e1 e3 e4 => hf F2 I2 e1 (fun b k e => (e3 b k e).trans (mhUF_nk e)) (fun b y e => (e4 b y e).trans (mhUI_ne e)))
        dsimp only at hi ⊢
        rw [mhUI_at (by omega) (by omega)]
        by_cases e : i = (ulS kf kt k).1
        · rw [if_pos ⟨rfl, e⟩, if_pos e]
        · rw [if_neg (fun z => e z.2), if_neg e]; exact hu.2 i (by omega)
      · skip
        refine mh_iconst_0 dX0_compare_69 (q := 70) rfl ?_
        refine mh_ireturn dX0_compare_70 rfl rfl ?_
        rw [show (10 : Int32) = nI 10 from rfl, nI_ltI (by omega) (by decide)] at c66
        refine hf F I (fun z => ?_) (fun _ _ _ => rfl) (fun _ _ _ => rfl)
        have := ulS_mono (kf := kf) (kt := kt) (k := k + 1) (d := gSides w h - (k + 1))
        rw [show k + 1 + (gSides w h - (k + 1)) = gSides w h by omega, ulS_n c51] at this
        dsimp only at this
        omega
    · skip
      refine mh_goto dX0_compare_54 (tgt := 91) rfl ?_
      refine mh_iinc_3 (v := 1) dX0_compare_91 (q := 94) rfl (by decide) ?_
      refine mh_goto dX0_compare_94 (tgt := 31) rfl ?_
      rw [nI_1]
      rw [ulS_e c51] at h9
      exact h9 F I (by omega) hH hG hp hq hu h10 ht hf
set_option maxHeartbeats 4000000 in
set_option maxRecDepth 100000 in
theorem sp_X0_compare {l : Launch} {K : mhX} {Φ : mhQ} {S : List mhS} {F : mhF} {I : mhI} {J : mhJ} {P : mhP} (h0 : mhKX0 S) {a b w h w2 h2 : Nat} {kf kt : Nat → Int32} (hH : mhHs S F I a w h) (hG : mhHs S F I b w2 h2) (hp : mhPn I a w h kf) (hq : mhPn I b w2 h2 kt) (ht : w = w2 → h = h2 → ∀ (F2 : mhF) (I2 : mhI), (ulS kf kt (gSides w h)).1 ≤ 10 → ulC F2 I2 (ulS kf kt (gSides w h)).1 (ulS kf kt (gSides w h)).2 → (∀ b k, ¬ (b = 10 ∧ k = 1) → F2 b k = F b k) → (∀ b y, b ≠ 11 → I2 b y = I b y) → Φ (some (.int 1)) S F2 I2 J P) (hf : ∀ (F2 : mhF) (I2 : mhI), ¬ (w = w2 ∧ h = h2 ∧ (ulS kf kt (gSides w h)).1 ≤ 10) → (∀ b k, ¬ (b = 10 ∧ k = 1) → F2 b k = F b k) → (∀ b y, b ≠ 11 → I2 b y = I b y) → Φ (some (.int 0)) S F2 I2 J P) : mhOk l K mX0_compare [.ref 10, .ref a, .ref b] S F I J P Φ := by
  refine mhOk.of (by decide) (by decide) rfl (Nat.le_of_ble_eq_true rfl) ?_
  have g1 := hH.2.1
  have g2 := hG.2.1
  have a52 := hH.2.2.2.2.2.2.2.2.2.2
  have b52 := hG.2.2.2.2.2.2.2.2.2.2
  have hfr : ∀ c, 52 ≤ c → frP c F I (mhUF F 10 1 0) I := fun c hc => ⟨fun b k _ e => mhUF_nk e, fun _ _ _ _ _ => rfl⟩
  replace hH := hH.frp (hfr a a52)
  replace hG := hG.frp (hfr b b52)
  refine mh_aload_0 dX0_compare_0 (q := 1) rfl ?_
  refine mh_iconst_0 dX0_compare_1 (q := 2) rfl ?_
  refine mh_putI (Or.inl fw_X0_18) rfl rfl dX0_compare_2 (q := 5) rfl (shX0_0 h0) rfl ?_
  refine mh_aload_1 dX0_compare_5 (q := 6) rfl ?_
  refine mh_getI fl_X0_22 dX0_compare_6 (q := 9) rfl (shX1_0 hH.1) rfl ?_
  rw [hH.2.2.1]
  refine mh_aload_2 dX0_compare_9 (q := 10) rfl ?_
  refine mh_getI fl_X0_22 dX0_compare_10 (q := 13) rfl (shX1_0 hG.1) rfl ?_
  rw [hG.2.2.1]
  refine mh_icmp_ne dX0_compare_13 (tgt := 27) (q := 16) rfl rfl (fun c13 => ?_) (fun c13 => ?_)
  · skip
    rw [nI_eq (by have := g1.2.1; omega) (by have := g2.2.1; omega)] at c13
    refine mh_iconst_0 dX0_compare_27 (q := 28) rfl ?_
    refine mh_ireturn dX0_compare_28 rfl rfl ?_
    exact hf _ I (fun z => c13 z.1) (fun b k e => mhUF_nk e) (fun _ _ _ => rfl)
  · skip
    rw [nI_eq (by have := g1.2.1; omega) (by have := g2.2.1; omega)] at c13
    refine mh_aload_1 dX0_compare_16 (q := 17) rfl ?_
    refine mh_getI fl_X0_27 dX0_compare_17 (q := 20) rfl (shX1_0 hH.1) rfl ?_
    rw [hH.2.2.2.1]
    refine mh_aload_2 dX0_compare_20 (q := 21) rfl ?_
    refine mh_getI fl_X0_27 dX0_compare_21 (q := 24) rfl (shX1_0 hG.1) rfl ?_
    rw [hG.2.2.2.1]
    refine mh_icmp_eq dX0_compare_24 (tgt := 29) (q := 27) rfl rfl (fun c24 => ?_) (fun c24 => ?_)
    · skip
      rw [nI_eq (by have := g1.2.2.2; omega) (by have := g2.2.2.2; omega)] at c24
      refine mh_iconst_0 dX0_compare_29 (q := 30) rfl ?_
      refine mh_istore_3 dX0_compare_30 (q := 31) rfl ?_
      subst c13
      subst c24
      exact lp_X0_compare (kc := mX0_compare.2.2.2.2.cells) (ks := mX0_compare.2.2.2.2.slots) h0 (gSides w h) 0 _ I (Nat.zero_add _) hH hG (hp.frp (hfr a a52) a52) (hq.frp (hfr b b52) b52) ⟨mhUF_at, fun i hi => absurd hi (Nat.not_lt_zero i)⟩ (Nat.zero_le _) (fun F2 I2 e1 e2 e3 e4 => ht rfl rfl F2 I2 e1 e2 (fun b k e => (e3 b k e).trans (mhUF_nk e)) e4) (fun F2 I2 e1 e3 e4 => hf F2 I2 (fun z => e1 z.2.2) (fun b k e => (e3 b k e).trans (mhUF_nk e)) e4)
    · skip
      rw [nI_eq (by have := g1.2.2.2; omega) (by have := g2.2.2.2; omega)] at c24
      refine mh_iconst_0 dX0_compare_27 (q := 28) rfl ?_
      refine mh_ireturn dX0_compare_28 rfl rfl ?_
      exact hf _ I (fun z => c24 z.2.1) (fun b k e => mhUF_nk e) (fun _ _ _ => rfl)
set_option maxHeartbeats 4000000 in
set_option maxRecDepth 100000 in
theorem lp_X0_rowsBehind {l : Launch} {K : mhX} {kc ks : Nat} {Φ : mhQ} {S : List mhS} {F : mhF} {I : mhI} {J : mhJ} {P : mhP} (h0 : mhKX0 S) {n s : Nat} {T : Nat → Nat} (hn : n ≤ 10) (hs : s < 2 ^ n) (hF : F 10 1 = nI n) (hT : ∀ y, s < y → y < 2 ^ n → I 12 (nI y) = nI (T y)) (hΦ : Φ (some (.int (nI (rwS T s n)))) S F I J P) : ∀ (m k : Nat), k + m = n → mhV l K mX0_rowsBehind kc ks Φ 4 [some (.ref 10), some (.int (nI s)), some (.int (nI (rwS T s k))), some (.int (nI k))] [] S F I J P := by
  have p2 : 2 ^ n ≤ 2 ^ 10 := Nat.pow_le_pow_right (by decide) hn
  intro m
  induction m with
  | zero =>
    intro k hk
    obtain rfl : k = n := by omega
    refine mh_iload_3 dX0_rowsBehind_4 (q := 5) rfl ?_
    refine mh_aload_0 dX0_rowsBehind_5 (q := 6) rfl ?_
    refine mh_getI fl_X0_18 dX0_rowsBehind_6 (q := 9) rfl (shX0_0 h0) rfl ?_
    rw [hF]
    refine mh_icmp_ge dX0_rowsBehind_9 (tgt := 39) (q := 12) rfl rfl (fun _ => ?_) (fun hh => absurd (nI_le (Nat.le_refl _) (by omega)) hh)
    refine mh_iload_2 dX0_rowsBehind_39 (q := 40) rfl ?_
    refine mh_ireturn dX0_rowsBehind_40 rfl rfl ?_
    exact hΦ
  | succ m ih =>
    intro k hk
    have h9 := ih (k + 1) (by omega)
    have es : rwS T s (k + 1) = rwS T s k + (if s.testBit k = true then 0 else T (s ||| 2 ^ k)) := rfl
    rw [es] at h9
    refine mh_iload_3 dX0_rowsBehind_4 (q := 5) rfl ?_
    refine mh_aload_0 dX0_rowsBehind_5 (q := 6) rfl ?_
    refine mh_getI fl_X0_18 dX0_rowsBehind_6 (q := 9) rfl (shX0_0 h0) rfl ?_
    rw [hF]
    refine mh_icmp_ge dX0_rowsBehind_9 (tgt := 39) (q := 12) rfl rfl (fun hh => absurd hh (nI_ge (by omega) (by omega))) (fun _ => ?_)
    refine mh_iload_1 dX0_rowsBehind_12 (q := 13) rfl ?_
    refine mh_iload_3 dX0_rowsBehind_13 (q := 14) rfl ?_
    refine mh_ishr dX0_rowsBehind_14 (q := 15) rfl ?_
    refine mh_iconst_1 dX0_rowsBehind_15 (q := 16) rfl ?_
    refine mh_iand dX0_rowsBehind_16 (q := 17) rfl ?_
    rw [nI_tb (by omega)]
    refine mh_if_ne dX0_rowsBehind_17 (tgt := 33) (q := 20) rfl rfl (fun c17 => ?_) (fun c17 => ?_)
    · skip
      refine mh_iinc_3 (v := 1) dX0_rowsBehind_33 (q := 36) rfl (by decide) ?_
      refine mh_goto dX0_rowsBehind_36 (tgt := 4) rfl ?_
      rw [nI_1]
      have tb : s.testBit k = true := Decidable.byContradiction (fun z => c17 (if_neg z))
      rw [if_pos tb, Nat.add_zero] at h9
      exact h9
    · skip
      have tb : ¬ s.testBit k = true := fun z => by rw [if_pos z] at c17; exact absurd c17 (by decide)
      have og := or_gt hs (show k < n by omega) (by simpa using tb)
      refine mh_iload_2 dX0_rowsBehind_20 (q := 21) rfl ?_
      refine mh_aload_0 dX0_rowsBehind_21 (q := 22) rfl ?_
      refine mh_getR fl_X0_15 dX0_rowsBehind_22 (q := 25) rfl (shX0_0 h0) rfl ?_
      refine mh_iload_1 dX0_rowsBehind_25 (q := 26) rfl ?_
      refine mh_iconst_1 dX0_rowsBehind_26 (q := 27) rfl ?_
      refine mh_iload_3 dX0_rowsBehind_27 (q := 28) rfl ?_
      refine mh_ishl dX0_rowsBehind_28 (q := 29) rfl ?_
      refine mh_ior dX0_rowsBehind_29 (q := 30) rfl ?_
      rw [nI_or (by omega)]
      refine mh_iald dX0_rowsBehind_30 (q := 31) rfl (shX0_2 h0) (vp_in_nI (by omega) (by decide)) ?_
      rw [hT _ og.1 og.2]
      refine mh_iadd dX0_rowsBehind_31 (q := 32) rfl ?_
      rw [nI_add]
      refine mh_istore_2 dX0_rowsBehind_32 (q := 33) rfl ?_
      refine mh_iinc_3 (v := 1) dX0_rowsBehind_33 (q := 36) rfl (by decide) ?_
      refine mh_goto dX0_rowsBehind_36 (tgt := 4) rfl ?_
      rw [nI_1]
      rw [if_neg tb] at h9
      exact h9
set_option maxHeartbeats 4000000 in
set_option maxRecDepth 100000 in
theorem sp_X0_rowsBehind {l : Launch} {K : mhX} {Φ : mhQ} {S : List mhS} {F : mhF} {I : mhI} {J : mhJ} {P : mhP} (h0 : mhKX0 S) {n s : Nat} {T : Nat → Nat} (hn : n ≤ 10) (hs : s < 2 ^ n) (hF : F 10 1 = nI n) (hT : ∀ y, s < y → y < 2 ^ n → I 12 (nI y) = nI (T y)) (hΦ : Φ (some (.int (nI (rwS T s n)))) S F I J P) : mhOk l K mX0_rowsBehind [.ref 10, .int (nI s)] S F I J P Φ := by
  refine mhOk.of (by decide) (by decide) rfl (Nat.le_of_ble_eq_true rfl) ?_
  refine mh_iconst_0 dX0_rowsBehind_0 (q := 1) rfl ?_
  refine mh_istore_2 dX0_rowsBehind_1 (q := 2) rfl ?_
  refine mh_iconst_0 dX0_rowsBehind_2 (q := 3) rfl ?_
  refine mh_istore_3 dX0_rowsBehind_3 (q := 4) rfl ?_
  exact lp_X0_rowsBehind (kc := mX0_rowsBehind.2.2.2.2.cells) (ks := mX0_rowsBehind.2.2.2.2.slots) h0 hn hs hF hT hΦ n 0 (Nat.zero_add _)
set_option maxHeartbeats 4000000 in
set_option maxRecDepth 100000 in
theorem lp_X0_countRows {l : Launch} {K : mhX} {kc ks : Nat} {Φ : mhQ} {S : List mhS} {J : mhJ} {P : mhP} {F : mhF} (h0 : mhKX0 S) {a b w h n : Nat} {kf kt : Nat → Int32} {un : Nat → Nat} (hab : a + 11 ≤ b ∨ b + 11 ≤ a) (hn : n ≤ 10) (hun : ∀ i, i < n → un i < gSides w h) (hinc : ∀ i j, i < j → j < n → un i < un j) : ∀ (q m : Nat) (I : mhI) (o5 : Option Value), m + q = 2 ^ n → mhHs S F I a w h → mhHs S F I b w h → mhPn I a w h kf → mhPn I b w h kt → ulC F I n un → (∀ y, y < 2 ^ n → 2 ^ n - m ≤ y → I 12 (nI y) = nI ((rwT w h kf kt un n m) y)) → (∀ I2 : mhI, (∀ y, y < 2 ^ n → I2 12 (nI y) = nI ((rwT w h kf kt un n (2 ^ n)) y)) → frP a F I F I2 → (∀ y, I2 11 y = I 11 y) → Φ (some (.int (nI ((rwT w h kf kt un n (2 ^ n)) 0)))) S F I2 J P) → mhV l K mX0_countRows kc ks Φ 12 [some (.ref 10), some (.ref a), some (.ref b), some (.int (nI (2 ^ n - 1))), some (.int (nI (2 ^ n - m) - 1)), o5] [] S F I J P := by
  have p2 : 2 ^ n ≤ 2 ^ 10 := Nat.pow_le_pow_right (by decide) hn
  have p0 : 0 < 2 ^ n := Nat.two_pow_pos n
  intro q
  induction q with
  | zero =>
    intro m I o5 hm hH hG hp hq hu ht hΦ
    obtain rfl : m = 2 ^ n := by omega
    have htt : ∀ y, y < 2 ^ n → I 12 (nI y) = nI ((rwT w h kf kt un n (2 ^ n)) y) := fun y hy => ht y hy (by omega)
    refine mh_iload_4 dX0_countRows_12 (q := 14) rfl ?_
    refine mh_if_lt dX0_countRows_14 (tgt := 77) (q := 17) rfl rfl (fun _ => ?_) (fun hh => absurd (show nI (2 ^ n - 2 ^ n) - 1 < (0 : Int32) by rw [Nat.sub_self]; decide) hh)
    refine mh_aload_0 dX0_countRows_77 (q := 78) rfl ?_
    refine mh_getR fl_X0_15 dX0_countRows_78 (q := 81) rfl (shX0_0 h0) rfl ?_
    refine mh_iconst_0 dX0_countRows_81 (q := 82) rfl ?_
    refine mh_iald dX0_countRows_82 (q := 83) rfl (shX0_2 h0) (vp_in_nI (n := 0) (by decide) (by decide)) ?_
    rw [show I 12 (0 : Int32) = I 12 (nI 0) from rfl, htt 0 p0]
    refine mh_ireturn dX0_countRows_83 rfl rfl ?_
    exact hΦ I htt frP.rf (fun _ => rfl)
  | succ q ih =>
    intro m I o5 hm hH hG hp hq hu ht hΦ
    have e1 : nI (2 ^ n - m) - 1 = nI (2 ^ n - 1 - m) := by rw [show 2 ^ n - m = (2 ^ n - 1 - m) + 1 by omega, ← nI_1]; grind
    obtain ⟨s, hs⟩ : ∃ s, s = 2 ^ n - 1 - m := ⟨_, rfl⟩
    have hs2 : s < 2 ^ n := by omega
    rw [e1, ← hs]
    have h9 := ih (m + 1)
    have a52 := hH.2.2.2.2.2.2.2.2.2.2
    have b52 := hG.2.2.2.2.2.2.2.2.2.2
    have rs : (rwT w h kf kt un n (m + 1)) s = @ite _ (fair w h (csF kf kt un s n)) (Classical.propDecidable _) (if m = 0 then 1 else rwS (rwT w h kf kt un n m) s n) 0 := rwT_e hs
    have b31 := rwS_31 (w := w) (h := h) (kf := kf) (kt := kt) (un := un) (m := m) (x := s) hn (by omega) hs2 (Nat.le_refl n)
    refine mh_iload_4 dX0_countRows_12 (q := 14) rfl ?_
    refine mh_if_lt dX0_countRows_14 (tgt := 77) (q := 17) rfl rfl (fun hh => absurd hh (nI_pos (by omega))) (fun _ => ?_)
    refine mh_iload_4 dX0_countRows_17 (q := 19) rfl ?_
    refine mh_iload_3 dX0_countRows_19 (q := 20) rfl ?_
    refine mh_icmp_ne dX0_countRows_20 (tgt := 27) (q := 23) rfl rfl (fun c20 => ?_) (fun c20 => ?_)
    · skip
      rw [nI_eq (by omega) (by omega)] at c20
      have em : ¬ m = 0 := by omega
      have eL : (if m = 0 then 1 else rwS (rwT w h kf kt un n m) s n) = rwS (rwT w h kf kt un n m) s n := if_neg em
      refine mh_aload_0 dX0_countRows_27 (q := 28) rfl ?_
      refine mh_iload_4 dX0_countRows_28 (q := 30) rfl ?_
      refine mh_callV1 ca_X0_countRows_30 (shX0_0 h0) (q := 33) rfl (by simp [Value.category]) ⟨Nat.zero_le _, Nat.zero_le _⟩ ?_
      refine sp_X0_rowsBehind h0 hn hs2 hu.1 (fun y h1 h2 => ht y h2 (by omega)) ?_
      rw [← eL]
      refine mh_istore_5 dX0_countRows_33 (q := 35) rfl ?_
      refine mh_aload_0 dX0_countRows_35 (q := 36) rfl ?_
      refine mh_getR fl_X0_15 dX0_countRows_36 (q := 39) rfl (shX0_0 h0) rfl ?_
      refine mh_iload_4 dX0_countRows_39 (q := 41) rfl ?_
      refine mh_iload_5 dX0_countRows_41 (q := 43) rfl ?_
      have b31L : (if m = 0 then 1 else rwS (rwT w h kf kt un n m) s n) < 2 ^ 31 := by rw [eL]; omega
      refine mh_if_le dX0_countRows_43 (tgt := 69) (q := 46) rfl rfl (fun c43 => ?_) (fun c43 => ?_)
      · skip
        have hL0 : (if m = 0 then 1 else rwS (rwT w h kf kt un n m) s n) = 0 := by
          rw [show (0 : Int32) = nI 0 from rfl, nI_leI b31L (by decide)] at c43
          omega
        refine mh_iconst_0 dX0_countRows_69 (q := 70) rfl ?_
        refine mh_iast dX0_countRows_70 (q := 71) rfl (shX0_2 h0) (by decide) (vp_in_nI (by omega) (by decide)) ?_
        refine mh_iinc_4 (v := (-1)) dX0_countRows_71 (q := 74) rfl (by decide) ?_
        refine mh_goto dX0_countRows_74 (tgt := 12) rfl ?_
        have ev : (rwT w h kf kt un n (m + 1)) s = 0 := by
          rw [rs, hL0]
          by_cases f : fair w h (csF kf kt un s n)
          · exact @if_pos _ (Classical.propDecidable _) f _ _ _
          · exact @if_neg _ (Classical.propDecidable _) f _ _ _
        rw [show nI s + -1 = nI (2 ^ n - (m + 1)) - 1 from by rw [show 2 ^ n - (m + 1) = s by omega]; grind]
        have hfr : frP a F I F (mhUI I 12 (nI s) 0) := ⟨fun _ _ _ _ => rfl, fun c y _ _ e => mhUI_ne e⟩
        have hfq := hfr
        refine h9 _ _ (by omega) (hH.frp hfq) (hG.frpo hab hfq) (hp.frp hfq a52) (hq.frpo hab hfq b52) ⟨hu.1, fun i hi => (mhUI_ne (by decide)).trans (hu.2 i hi)⟩ (fun y hy hy2 => ?_) (fun I3 t3 g3 w3 => hΦ I3 t3 (hfq.tr g3) (fun y => (w3 y).trans ((mhUI_ne (by decide)).trans (rfl))))
        rw [mhUI_at (by omega) (by omega)]
        by_cases e : y = s
        · rw [if_pos ⟨rfl, e⟩, e, ev]
          rfl
        · rw [if_neg (fun x => e x.2), rwT_n (by omega)]
          skip
          exact ht y hy (by omega)
      · skip
        refine mh_aload_1 dX0_countRows_46 (q := 47) rfl ?_
        refine mh_aload_2 dX0_countRows_47 (q := 48) rfl ?_
        refine mh_aload_0 dX0_countRows_48 (q := 49) rfl ?_
        refine mh_getR fl_X0_9 dX0_countRows_49 (q := 52) rfl (shX0_0 h0) rfl ?_
        refine mh_aload_0 dX0_countRows_52 (q := 53) rfl ?_
        refine mh_getI fl_X0_18 dX0_countRows_53 (q := 56) rfl (shX0_0 h0) rfl ?_
        rw [hu.1]
        refine mh_iload_4 dX0_countRows_56 (q := 58) rfl ?_
        refine mh_callV4 ca_X0_countRows_58 (shX1_0 hH.1) (q := 61) rfl (by simp [Value.category]) ⟨Nat.zero_le _, Nat.zero_le _⟩ ?_
        refine sp_X1_isFairWith h0 hab hn hs2 hun hinc hH hG hp hq hu (fun z I2 g2 => ?_) (fun z I2 g2 => ?_)
        · skip
          refine mh_if_eq dX0_countRows_61 (tgt := 69) (q := 64) rfl rfl (fun hh => False.elim (by revert hh; decide)) (fun _ => ?_)
          refine mh_iload_5 dX0_countRows_64 (q := 66) rfl ?_
          refine mh_goto dX0_countRows_66 (tgt := 70) rfl ?_
          refine mh_iast dX0_countRows_70 (q := 71) rfl (shX0_2 h0) (by decide) (vp_in_nI (by omega) (by decide)) ?_
          refine mh_iinc_4 (v := (-1)) dX0_countRows_71 (q := 74) rfl (by decide) ?_
          refine mh_goto dX0_countRows_74 (tgt := 12) rfl ?_
          have ev : (rwT w h kf kt un n (m + 1)) s = (if m = 0 then 1 else rwS (rwT w h kf kt un n m) s n) := rs.trans (@if_pos _ (Classical.propDecidable _) z _ _ _)
          rw [show nI s + -1 = nI (2 ^ n - (m + 1)) - 1 from by rw [show 2 ^ n - (m + 1) = s by omega]; grind]
          have hfr : frP a F I2 F (mhUI I2 12 (nI s) (nI (if m = 0 then 1 else rwS (rwT w h kf kt un n m) s n))) := ⟨fun _ _ _ _ => rfl, fun c y _ _ e => mhUI_ne e⟩
          have hfq := (g2.p.tr hfr)
          refine h9 _ _ (by omega) (hH.frp hfq) (hG.frpo hab hfq) (hp.frp hfq a52) (hq.frpo hab hfq b52) ⟨hu.1, fun i hi => (mhUI_ne (by decide)).trans ((g2.2 _ _ (by omega)).trans (hu.2 i hi))⟩ (fun y hy hy2 => ?_) (fun I3 t3 g3 w3 => hΦ I3 t3 (hfq.tr g3) (fun y => (w3 y).trans ((mhUI_ne (by decide)).trans (g2.2 11 y (by omega)))))
          rw [mhUI_at (by omega) (by omega)]
          by_cases e : y = s
          · rw [if_pos ⟨rfl, e⟩, e, ev]
          · rw [if_neg (fun x => e x.2), rwT_n (by omega)]
            rw [g2.2 12 _ (by omega)]
            exact ht y hy (by omega)
        · skip
          refine mh_if_eq dX0_countRows_61 (tgt := 69) (q := 64) rfl rfl (fun _ => ?_) (fun hh => False.elim (by revert hh; decide))
          refine mh_iconst_0 dX0_countRows_69 (q := 70) rfl ?_
          refine mh_iast dX0_countRows_70 (q := 71) rfl (shX0_2 h0) (by decide) (vp_in_nI (by omega) (by decide)) ?_
          refine mh_iinc_4 (v := (-1)) dX0_countRows_71 (q := 74) rfl (by decide) ?_
          refine mh_goto dX0_countRows_74 (tgt := 12) rfl ?_
          have ev : (rwT w h kf kt un n (m + 1)) s = 0 := rs.trans (@if_neg _ (Classical.propDecidable _) z _ _ _)
          rw [show nI s + -1 = nI (2 ^ n - (m + 1)) - 1 from by rw [show 2 ^ n - (m + 1) = s by omega]; grind]
          have hfr : frP a F I2 F (mhUI I2 12 (nI s) 0) := ⟨fun _ _ _ _ => rfl, fun c y _ _ e => mhUI_ne e⟩
          have hfq := (g2.p.tr hfr)
          refine h9 _ _ (by omega) (hH.frp hfq) (hG.frpo hab hfq) (hp.frp hfq a52) (hq.frpo hab hfq b52) ⟨hu.1, fun i hi => (mhUI_ne (by decide)).trans ((g2.2 _ _ (by omega)).trans (hu.2 i hi))⟩ (fun y hy hy2 => ?_) (fun I3 t3 g3 w3 => hΦ I3 t3 (hfq.tr g3) (fun y => (w3 y).trans ((mhUI_ne (by decide)).trans (g2.2 11 y (by omega)))))
          rw [mhUI_at (by omega) (by omega)]
          by_cases e : y = s
          · rw [if_pos ⟨rfl, e⟩, e, ev]
            rfl
          · rw [if_neg (fun x => e x.2), rwT_n (by omega)]
            rw [g2.2 12 _ (by omega)]
            exact ht y hy (by omega)
    · skip
      rw [nI_eq (by omega) (by omega)] at c20
      have em : m = 0 := by omega
      have eL : (if m = 0 then 1 else rwS (rwT w h kf kt un n m) s n) = 1 := if_pos em
      refine mh_iconst_1 dX0_countRows_23 (q := 24) rfl ?_
      rw [show (1 : Int32) = nI (if m = 0 then 1 else rwS (rwT w h kf kt un n m) s n) from by rw [eL]; rfl]
      refine mh_goto dX0_countRows_24 (tgt := 33) rfl ?_
      refine mh_istore_5 dX0_countRows_33 (q := 35) rfl ?_
      refine mh_aload_0 dX0_countRows_35 (q := 36) rfl ?_
      refine mh_getR fl_X0_15 dX0_countRows_36 (q := 39) rfl (shX0_0 h0) rfl ?_
      refine mh_iload_4 dX0_countRows_39 (q := 41) rfl ?_
      refine mh_iload_5 dX0_countRows_41 (q := 43) rfl ?_
      have b31L : (if m = 0 then 1 else rwS (rwT w h kf kt un n m) s n) < 2 ^ 31 := by rw [eL]; omega
      refine mh_if_le dX0_countRows_43 (tgt := 69) (q := 46) rfl rfl (fun c43 => ?_) (fun c43 => ?_)
      · skip
        have hL0 : (if m = 0 then 1 else rwS (rwT w h kf kt un n m) s n) = 0 := by
          rw [show (0 : Int32) = nI 0 from rfl, nI_leI b31L (by decide)] at c43
          omega
        refine mh_iconst_0 dX0_countRows_69 (q := 70) rfl ?_
        refine mh_iast dX0_countRows_70 (q := 71) rfl (shX0_2 h0) (by decide) (vp_in_nI (by omega) (by decide)) ?_
        refine mh_iinc_4 (v := (-1)) dX0_countRows_71 (q := 74) rfl (by decide) ?_
        refine mh_goto dX0_countRows_74 (tgt := 12) rfl ?_
        have ev : (rwT w h kf kt un n (m + 1)) s = 0 := by
          rw [rs, hL0]
          by_cases f : fair w h (csF kf kt un s n)
          · exact @if_pos _ (Classical.propDecidable _) f _ _ _
          · exact @if_neg _ (Classical.propDecidable _) f _ _ _
        rw [show nI s + -1 = nI (2 ^ n - (m + 1)) - 1 from by rw [show 2 ^ n - (m + 1) = s by omega]; grind]
        have hfr : frP a F I F (mhUI I 12 (nI s) 0) := ⟨fun _ _ _ _ => rfl, fun c y _ _ e => mhUI_ne e⟩
        have hfq := hfr
        refine h9 _ _ (by omega) (hH.frp hfq) (hG.frpo hab hfq) (hp.frp hfq a52) (hq.frpo hab hfq b52) ⟨hu.1, fun i hi => (mhUI_ne (by decide)).trans (hu.2 i hi)⟩ (fun y hy hy2 => ?_) (fun I3 t3 g3 w3 => hΦ I3 t3 (hfq.tr g3) (fun y => (w3 y).trans ((mhUI_ne (by decide)).trans (rfl))))
        rw [mhUI_at (by omega) (by omega)]
        by_cases e : y = s
        · rw [if_pos ⟨rfl, e⟩, e, ev]
          rfl
        · rw [if_neg (fun x => e x.2), rwT_n (by omega)]
          skip
          exact ht y hy (by omega)
      · skip
        refine mh_aload_1 dX0_countRows_46 (q := 47) rfl ?_
        refine mh_aload_2 dX0_countRows_47 (q := 48) rfl ?_
        refine mh_aload_0 dX0_countRows_48 (q := 49) rfl ?_
        refine mh_getR fl_X0_9 dX0_countRows_49 (q := 52) rfl (shX0_0 h0) rfl ?_
        refine mh_aload_0 dX0_countRows_52 (q := 53) rfl ?_
        refine mh_getI fl_X0_18 dX0_countRows_53 (q := 56) rfl (shX0_0 h0) rfl ?_
        rw [hu.1]
        refine mh_iload_4 dX0_countRows_56 (q := 58) rfl ?_
        refine mh_callV4 ca_X0_countRows_58 (shX1_0 hH.1) (q := 61) rfl (by simp [Value.category]) ⟨Nat.zero_le _, Nat.zero_le _⟩ ?_
        refine sp_X1_isFairWith h0 hab hn hs2 hun hinc hH hG hp hq hu (fun z I2 g2 => ?_) (fun z I2 g2 => ?_)
        · skip
          refine mh_if_eq dX0_countRows_61 (tgt := 69) (q := 64) rfl rfl (fun hh => False.elim (by revert hh; decide)) (fun _ => ?_)
          refine mh_iload_5 dX0_countRows_64 (q := 66) rfl ?_
          refine mh_goto dX0_countRows_66 (tgt := 70) rfl ?_
          refine mh_iast dX0_countRows_70 (q := 71) rfl (shX0_2 h0) (by decide) (vp_in_nI (by omega) (by decide)) ?_
          refine mh_iinc_4 (v := (-1)) dX0_countRows_71 (q := 74) rfl (by decide) ?_
          refine mh_goto dX0_countRows_74 (tgt := 12) rfl ?_
          have ev : (rwT w h kf kt un n (m + 1)) s = (if m = 0 then 1 else rwS (rwT w h kf kt un n m) s n) := rs.trans (@if_pos _ (Classical.propDecidable _) z _ _ _)
          rw [show nI s + -1 = nI (2 ^ n - (m + 1)) - 1 from by rw [show 2 ^ n - (m + 1) = s by omega]; grind]
          have hfr : frP a F I2 F (mhUI I2 12 (nI s) (nI (if m = 0 then 1 else rwS (rwT w h kf kt un n m) s n))) := ⟨fun _ _ _ _ => rfl, fun c y _ _ e => mhUI_ne e⟩
          have hfq := (g2.p.tr hfr)
          refine h9 _ _ (by omega) (hH.frp hfq) (hG.frpo hab hfq) (hp.frp hfq a52) (hq.frpo hab hfq b52) ⟨hu.1, fun i hi => (mhUI_ne (by decide)).trans ((g2.2 _ _ (by omega)).trans (hu.2 i hi))⟩ (fun y hy hy2 => ?_) (fun I3 t3 g3 w3 => hΦ I3 t3 (hfq.tr g3) (fun y => (w3 y).trans ((mhUI_ne (by decide)).trans (g2.2 11 y (by omega)))))
          rw [mhUI_at (by omega) (by omega)]
          by_cases e : y = s
          · rw [if_pos ⟨rfl, e⟩, e, ev]
          · rw [if_neg (fun x => e x.2), rwT_n (by omega)]
            rw [g2.2 12 _ (by omega)]
            exact ht y hy (by omega)
        · skip
          refine mh_if_eq dX0_countRows_61 (tgt := 69) (q := 64) rfl rfl (fun _ => ?_) (fun hh => False.elim (by revert hh; decide))
          refine mh_iconst_0 dX0_countRows_69 (q := 70) rfl ?_
          refine mh_iast dX0_countRows_70 (q := 71) rfl (shX0_2 h0) (by decide) (vp_in_nI (by omega) (by decide)) ?_
          refine mh_iinc_4 (v := (-1)) dX0_countRows_71 (q := 74) rfl (by decide) ?_
          refine mh_goto dX0_countRows_74 (tgt := 12) rfl ?_
          have ev : (rwT w h kf kt un n (m + 1)) s = 0 := rs.trans (@if_neg _ (Classical.propDecidable _) z _ _ _)
          rw [show nI s + -1 = nI (2 ^ n - (m + 1)) - 1 from by rw [show 2 ^ n - (m + 1) = s by omega]; grind]
          have hfr : frP a F I2 F (mhUI I2 12 (nI s) 0) := ⟨fun _ _ _ _ => rfl, fun c y _ _ e => mhUI_ne e⟩
          have hfq := (g2.p.tr hfr)
          refine h9 _ _ (by omega) (hH.frp hfq) (hG.frpo hab hfq) (hp.frp hfq a52) (hq.frpo hab hfq b52) ⟨hu.1, fun i hi => (mhUI_ne (by decide)).trans ((g2.2 _ _ (by omega)).trans (hu.2 i hi))⟩ (fun y hy hy2 => ?_) (fun I3 t3 g3 w3 => hΦ I3 t3 (hfq.tr g3) (fun y => (w3 y).trans ((mhUI_ne (by decide)).trans (g2.2 11 y (by omega)))))
          rw [mhUI_at (by omega) (by omega)]
          by_cases e : y = s
          · rw [if_pos ⟨rfl, e⟩, e, ev]
            rfl
          · rw [if_neg (fun x => e x.2), rwT_n (by omega)]
            rw [g2.2 12 _ (by omega)]
            exact ht y hy (by omega)
set_option maxHeartbeats 4000000 in
set_option maxRecDepth 100000 in
theorem sp_X0_countRows {l : Launch} {K : mhX} {Φ : mhQ} {S : List mhS} {F : mhF} {I : mhI} {J : mhJ} {P : mhP} (h0 : mhKX0 S) {a b w h n : Nat} {kf kt : Nat → Int32} {un : Nat → Nat} (hab : a + 11 ≤ b ∨ b + 11 ≤ a) (hn : n ≤ 10) (hun : ∀ i, i < n → un i < gSides w h) (hinc : ∀ i j, i < j → j < n → un i < un j) (hH : mhHs S F I a w h) (hG : mhHs S F I b w h) (hp : mhPn I a w h kf) (hq : mhPn I b w h kt) (hu : ulC F I n un) (hΦ : ∀ I2 : mhI, (∀ y, y < 2 ^ n → I2 12 (nI y) = nI ((rwT w h kf kt un n (2 ^ n)) y)) → frP a F I F I2 → (∀ y, I2 11 y = I 11 y) → Φ (some (.int (nI ((rwT w h kf kt un n (2 ^ n)) 0)))) S F I2 J P) : mhOk l K mX0_countRows [.ref 10, .ref a, .ref b] S F I J P Φ := by
  refine mhOk.of (by decide) (by decide) rfl (Nat.le_of_ble_eq_true rfl) ?_
  have ep := pw10 n (List.mem_range.mpr (by omega))
  have p0 : 0 < 2 ^ n := Nat.two_pow_pos n
  refine mh_iconst_1 dX0_countRows_0 (q := 1) rfl ?_
  refine mh_aload_0 dX0_countRows_1 (q := 2) rfl ?_
  refine mh_getI fl_X0_18 dX0_countRows_2 (q := 5) rfl (shX0_0 h0) rfl ?_
  rw [hu.1]
  refine mh_ishl dX0_countRows_5 (q := 6) rfl ?_
  rw [ep]
  refine mh_iconst_1 dX0_countRows_6 (q := 7) rfl ?_
  refine mh_isub dX0_countRows_7 (q := 8) rfl ?_
  rw [show nI (2 ^ n) - 1 = nI (2 ^ n - 1) from pk_sub (b := 1) p0]
  refine mh_istore_3 dX0_countRows_8 (q := 9) rfl ?_
  refine mh_iload_3 dX0_countRows_9 (q := 10) rfl ?_
  refine mh_istore_4 dX0_countRows_10 (q := 12) rfl ?_
  refine mhV_lo (lo := [some (.ref 10), some (.ref a), some (.ref b), some (.int (nI (2 ^ n - 1))), some (.int (nI (2 ^ n - 0) - 1)), none]) ?_ (lp_X0_countRows (kc := mX0_countRows.2.2.2.2.cells) (ks := mX0_countRows.2.2.2.2.slots) h0 hab hn hun hinc (2 ^ n) 0 I none (Nat.zero_add _) hH hG hp hq hu (fun y h1 h2 => absurd h1 (by omega)) hΦ)
  rw [show nI (2 ^ n - 0) - 1 = nI (2 ^ n - 1) from pk_sub (b := 1) p0]
  rfl
