/-! changed, change: the reference's calls -/
def frQ (F : mhF) (I : mhI) (J : mhJ) (F' : mhF) (I' : mhI) (J' : mhJ) : Prop := (∀ b k, ¬ (b = 21 ∧ k = 42) → F' b k = F b k) ∧ (∀ b y, b ≠ 47 → b ≠ 49 → b ≠ 50 → I' b y = I b y)
theorem frN.q {F F' : mhF} {I I' : mhI} {J : mhJ} (h : frN F I F' I') : frQ F I J F' I' J := ⟨h.1, fun b y _ e _ => h.2 b y e⟩
set_option maxHeartbeats 4000000 in
set_option maxRecDepth 100000 in
theorem sp_X7_changed {l : Launch} {K : mhX} {Φ : mhQ} {S : List mhS} {F : mhF} {I : mhI} {J : mhJ} {P : mhP} {nh : Nat} {wd hg : Nat → Nat} (hM : mhHR S F I nh wd hg) {kd : Nat → Nat → Int32} (hK : ∀ j, j < nh → mhKn I j (wd j) (hg j) (kd j)) {x y : Int32} (hn : ¬ (vHs nh x ∧ vHs nh y ∧ ¬ x = y) → Φ (some (.long (-9223372036854775808))) S F I J P) (hf : ∀ j j2, j < nh → j2 < nh → x = nI j → y = nI j2 → j ≠ j2 → ¬ chOk wd hg kd j j2 → ∀ (F2 : mhF) (I2 : mhI) (J2 : mhJ), frQ F I J F2 I2 J2 → Φ (some (.long (-9223372036854775808))) S F2 I2 J2 P) (ht : ∀ j j2, j < nh → j2 < nh → x = nI j → y = nI j2 → j ≠ j2 → chOk wd hg kd j j2 → ∀ (F2 : mhF) (I2 : mhI) (J2 : mhJ), frQ F I J F2 I2 J2 → Φ (some (.long (lN (chT wd hg kd j j2 0)))) S F2 I2 J2 P) : mhOk l K mX7_changed [.ref 21, .int x, .int y] S F I J P Φ := by
  refine mhOk.of (by decide) (by decide) rfl (Nat.le_of_ble_eq_true rfl) ?_
  refine mh_aload_0 dX7_changed_0 (q := 1) rfl ?_
  refine mh_iload_1 dX7_changed_1 (q := 2) rfl ?_
  refine mh_iload_2 dX7_changed_2 (q := 3) rfl ?_
  refine mh_callV2 ca_X7_changed_3 (shX7_0 hM.1) (q := 6) rfl (by simp [Value.category]) ⟨Nat.zero_le _, Nat.zero_le _⟩ ?_
  refine sp_X7_whyNot hM hK (fun hv => ?_) (fun hv e => ?_) (fun j j2 hj hj2 ej ej2 hne hno F1 I1 g1 => ?_) (fun j j2 hj hj2 ej ej2 hne hOk F1 I1 hu g1 => ?_)
  · skip
    refine mh_if_eq dX7_changed_6 (tgt := 13) (q := 9) rfl rfl (fun hh => False.elim (by revert hh; decide)) (fun _ => ?_)
    refine mh_ldc2_w dX7_changed_9 (q := 12) rfl wd_1181 ?_
    refine mh_lreturn dX7_changed_12 rfl ?_
    exact hn (fun z => hv ⟨z.1, z.2.1⟩)
  · skip
    refine mh_if_eq dX7_changed_6 (tgt := 13) (q := 9) rfl rfl (fun hh => False.elim (by revert hh; decide)) (fun _ => ?_)
    refine mh_ldc2_w dX7_changed_9 (q := 12) rfl wd_1181 ?_
    refine mh_lreturn dX7_changed_12 rfl ?_
    exact hn (fun z => z.2.2 e)
  · skip
    refine mh_if_eq dX7_changed_6 (tgt := 13) (q := 9) rfl rfl (fun hh => False.elim (by revert hh; decide)) (fun _ => ?_)
    refine mh_ldc2_w dX7_changed_9 (q := 12) rfl wd_1181 ?_
    refine mh_lreturn dX7_changed_12 rfl ?_
    exact hf j j2 hj hj2 ej ej2 hne hno F1 I1 J g1.q
  · skip
    subst ej
    subst ej2
    refine mh_if_eq dX7_changed_6 (tgt := 13) (q := 9) rfl rfl (fun _ => ?_) (fun hh => False.elim (by revert hh; decide))
    refine mh_aload_0 dX7_changed_13 (q := 14) rfl ?_
    refine mh_iload_1 dX7_changed_14 (q := 15) rfl ?_
    refine mh_iload_2 dX7_changed_15 (q := 16) rfl ?_
    refine mh_callV2 ca_X7_changed_16 (shX7_0 hM.1) (q := 19) rfl (by simp [Value.category]) ⟨Nat.zero_le _, Nat.zero_le _⟩ ?_
    have ul := ulS_le (kf := kd j) (kt := kd j2) (k := gSides (wd j) (hg j))
    have h3 := hM.2.1
    have hn10 := hOk.2.2
    have hk2 : mhKn I1 j2 (wd j) (hg j) (kd j2) := by
      have := (hK j2 hj2).frn g1
      rw [← hOk.1, ← hOk.2.1] at this
      exact this
    refine sp_X7_layRows hM.1 ((hM.2.2.2 j hj).frn g1) (by omega) hne ((hK j hj).frn g1) hk2 hOk.2.2 (fun i hi => ul.2.1 i hi) (fun i j q1 q2 => ul.2.2 i j q1 q2) hu (fun I2 J2 g2 t2 => ?_)
    have g3 : frQ F I J F1 I2 J2 := ⟨g1.1, fun b y e1 e2 e3 => (g2 b y e1 e3).trans (g1.2 b y e2)⟩
    have p0 : 0 < 2 ^ (ulS (kd j) (kd j2) (gSides (wd j) (hg j))).1 := Nat.two_pow_pos _
    have b31 := rwT_31 (w := wd j) (h := hg j) (kf := kd j) (kt := kd j2) (un := (ulS (kd j) (kd j2) (gSides (wd j) (hg j))).2) hOk.2.2 (Nat.le_refl _) p0
    have t0 : J2 51 (0 : Int32) = lN (chT wd hg kd j j2 0) := t2 0 p0
    refine mh_aload_0 dX7_changed_19 (q := 20) rfl ?_
    refine mh_getR fl_X7_98 dX7_changed_20 (q := 23) rfl (shX7_0 hM.1) rfl ?_
    refine mh_iconst_0 dX7_changed_23 (q := 24) rfl ?_
    refine mh_lald dX7_changed_24 (q := 25) rfl (shX7_30 hM.1) (vp_in_nI (n := 0) (by decide) (by decide)) ?_
    rw [t0]
    refine mh_lreturn dX7_changed_25 rfl ?_
    exact ht j j2 hj hj2 rfl rfl hne hOk F1 I2 J2 g3
theorem lN_0 {t : Nat} (h : t < 2 ^ 31) : lg_cmp (lN t) 0 = 0 ↔ t = 0 := by rw [mh_cmp0, show (0 : Int64) = lN 0 from rfl, lN_eq h (by decide)]
set_option maxHeartbeats 4000000 in
set_option maxRecDepth 100000 in
theorem lp_X7_changeI {l : Launch} {K : mhX} {kc ks : Nat} {Φ : mhQ} {S : List mhS} {F : mhF} {I : mhI} {J : mhJ} {P : mhP} (h7 : mhKX7 S) {n s : Nat} {T : Nat → Nat} (hn : n ≤ 10) (hs : s < 2 ^ n) (hT : ∀ y, y < 2 ^ n → J 51 (nI y) = lN (T y)) (h31 : ∀ y, y < 2 ^ n → T y < 2 ^ 31) (hfg : fgN T s n 0 < n) {o1 o2 o3 o4 o7 : Option Value} (hΦ : mhV l K mX7_change kc ks Φ 123 [some (.ref 21), o1, o2, o3, o4, some (.int (nI s)), some (.int (nI (fgN T s n 0))), o7] [] S F I J P) : ∀ (m k : Nat), k + m = n → fgN T s n 0 = fgN T s m k → mhV l K mX7_change kc ks Φ 90 [some (.ref 21), o1, o2, o3, o4, some (.int (nI s)), some (.int (nI k)), o7] [] S F I J P := by
  have p2 : 2 ^ n ≤ 2 ^ 10 := Nat.pow_le_pow_right (by decide) hn
  intro m
  induction m with
  | zero =>
    intro k hk he
    have e0 : fgN T s 0 k = k := rfl
    omega
  | succ m ih =>
    intro k hk he
    rw [fgN_s] at he
    have h9 := ih (k + 1) (by omega)
    refine mh_iload_5 dX7_change_90 (q := 92) rfl ?_
    refine mh_iload_6 dX7_change_92 (q := 94) rfl ?_
    refine mh_callS2 ca_X7_change_94 (q := 97) rfl (by simp [Value.category]) ⟨Nat.zero_le _, Nat.zero_le _⟩ ?_
    refine sp_X7_has (fun ch => ?_) (fun ch => ?_)
    · skip
      have tb : s.testBit k = true := Decidable.byContradiction (fun z => by rw [nI_tb (by omega), if_neg z] at ch; exact absurd ch (by decide))
      refine mh_if_ne dX7_change_97 (tgt := 117) (q := 100) rfl rfl (fun _ => ?_) (fun hh => False.elim (by revert hh; decide))
      refine mh_iinc_6 (v := 1) dX7_change_117 (q := 120) rfl (by decide) ?_
      refine mh_goto dX7_change_120 (tgt := 90) rfl ?_
      rw [nI_1]
      rw [if_neg (fun z => by rw [tb] at z; exact absurd z.1 (by decide))] at he
      exact h9 he
    · skip
      have tb : ¬ s.testBit k = true := fun z => ch (by rw [nI_tb (by omega), if_pos z])
      have tb2 : s.testBit k = false := by simpa using tb
      have og := or_gt hs (show k < n by omega) tb2
      refine mh_if_ne dX7_change_97 (tgt := 117) (q := 100) rfl rfl (fun hh => False.elim (by revert hh; decide)) (fun _ => ?_)
      refine mh_aload_0 dX7_change_100 (q := 101) rfl ?_
      refine mh_getR fl_X7_98 dX7_change_101 (q := 104) rfl (shX7_0 h7) rfl ?_
      refine mh_iload_5 dX7_change_104 (q := 106) rfl ?_
      refine mh_iconst_1 dX7_change_106 (q := 107) rfl ?_
      refine mh_iload_6 dX7_change_107 (q := 109) rfl ?_
      refine mh_ishl dX7_change_109 (q := 110) rfl ?_
      refine mh_ior dX7_change_110 (q := 111) rfl ?_
      rw [nI_or (by omega)]
      refine mh_lald dX7_change_111 (q := 112) rfl (shX7_30 h7) (vp_in_nI (by omega) (by decide)) ?_
      rw [hT _ og.2]
      refine mh_lconst_0 dX7_change_112 (q := 113) rfl ?_
      refine mh_lcmp dX7_change_113 (q := 114) rfl ?_
      refine mh_if_ne dX7_change_114 (tgt := 123) (q := 117) rfl rfl (fun c114 => ?_) (fun c114 => ?_)
      · skip
        rw [lN_0 (h31 _ og.2)] at c114
        rw [if_pos ⟨tb2, by omega⟩] at he
        rw [he] at hΦ
        exact hΦ
      · skip
        refine mh_iinc_6 (v := 1) dX7_change_117 (q := 120) rfl (by decide) ?_
        refine mh_goto dX7_change_120 (tgt := 90) rfl ?_
        rw [nI_1]
        rw [lN_0 (h31 _ og.2)] at c114
        rw [if_neg (fun z => by omega)] at he
        exact h9 he
set_option maxHeartbeats 4000000 in
set_option maxRecDepth 100000 in
theorem lp_X7_change {l : Launch} {K : mhX} {kc ks : Nat} {Φ : mhQ} {S : List mhS} {F : mhF} {I : mhI} {J : mhJ} {P : mhP} (h7 : mhKX7 S) {n w h q : Nat} {kf kt : Nat → Int32} {un : Nat → Nat} (hn : n ≤ 10) (hu : ulM F I n un) (hT : ∀ y, y < 2 ^ n → J 51 (nI y) = lN ((rwT w h kf kt un n (2 ^ n)) y)) (hp : 0 < (rwT w h kf kt un n (2 ^ n)) 0) (hq : q < n) (hΦ : Φ (some (.int (ofR (rwT w h kf kt un n (2 ^ n)) n un q))) S F I J P) {o1 o2 o4 : Option Value} : ∀ (m s : Nat) (la : Int32), s + m = q + 1 → (0 < s → la = nI (fgN (rwT w h kf kt un n (2 ^ n)) (chN (rwT w h kf kt un n (2 ^ n)) n (s - 1)) n 0)) → mhV l K mX7_change kc ks Φ 81 [some (.ref 21), o1, o2, some (.int (nI q)), o4, some (.int (nI (chN (rwT w h kf kt un n (2 ^ n)) n s))), some (.int la), some (.int (nI s))] [] S F I J P := by
  intro m
  induction m with
  | zero =>
    intro s la hs hla
    have e1 : ofR (rwT w h kf kt un n (2 ^ n)) n un q = nI (un (fgN (rwT w h kf kt un n (2 ^ n)) (chN (rwT w h kf kt un n (2 ^ n)) n q) n 0)) := if_pos hq
    have e2 := hla (by omega)
    rw [show s - 1 = q by omega] at e2
    have fk := fg_ok hp hq
    rw [e1] at hΦ
    refine mh_iload_7 dX7_change_81 (q := 83) rfl ?_
    refine mh_iload_3 dX7_change_83 (q := 84) rfl ?_
    refine mh_icmp_gt dX7_change_84 (tgt := 138) (q := 87) rfl rfl (fun _ => ?_) (fun hh => absurd (show nI q < nI s from nI_lt (by omega) (by omega)) hh)
    refine mh_aload_0 dX7_change_138 (q := 139) rfl ?_
    refine mh_getR fl_X7_92 dX7_change_139 (q := 142) rfl (shX7_0 h7) rfl ?_
    refine mh_iload_6 dX7_change_142 (q := 144) rfl ?_
    refine mh_iald dX7_change_144 (q := 145) rfl (shX7_28 h7) (by rw [e2]; exact vp_in_nI (by omega) (by decide)) ?_
    rw [e2, hu.2 _ fk.1]
    refine mh_ireturn dX7_change_145 rfl rfl ?_
    exact hΦ
  | succ m ih =>
    intro s la hs hla
    have ck := ch_ok hp (s := s) (by omega)
    have fk := fg_ok hp (show s < n by omega)
    have h9 := ih (s + 1)
    refine mh_iload_7 dX7_change_81 (q := 83) rfl ?_
    refine mh_iload_3 dX7_change_83 (q := 84) rfl ?_
    refine mh_icmp_gt dX7_change_84 (tgt := 138) (q := 87) rfl rfl (fun hh => absurd hh (show ¬ nI q < nI s from Int32.not_lt.mpr ((nI_leI (by omega) (by omega)).mpr (by omega)))) (fun _ => ?_)
    refine mh_iconst_0 dX7_change_87 (q := 88) rfl ?_
    refine mh_istore_6 dX7_change_88 (q := 90) rfl ?_
    refine lp_X7_changeI h7 hn ck.1 hT (fun y hy => rwT_31 hn (Nat.le_refl _) hy) fk.1 ?_ n 0 (Nat.zero_add _) rfl
    refine mh_iload_5 dX7_change_123 (q := 125) rfl ?_
    refine mh_iconst_1 dX7_change_125 (q := 126) rfl ?_
    refine mh_iload_6 dX7_change_126 (q := 128) rfl ?_
    refine mh_ishl dX7_change_128 (q := 129) rfl ?_
    refine mh_ior dX7_change_129 (q := 130) rfl ?_
    rw [nI_or (by omega)]
    refine mh_istore_5 dX7_change_130 (q := 132) rfl ?_
    refine mh_iinc_7 (v := 1) dX7_change_132 (q := 135) rfl (by decide) ?_
    refine mh_goto dX7_change_135 (tgt := 81) rfl ?_
    rw [nI_1]
    exact h9 _ (by omega) (fun _ => rfl)
set_option maxHeartbeats 4000000 in
set_option maxRecDepth 100000 in
theorem sp_X7_change {l : Launch} {K : mhX} {Φ : mhQ} {S : List mhS} {F : mhF} {I : mhI} {J : mhJ} {P : mhP} {nh : Nat} {wd hg : Nat → Nat} (hM : mhHR S F I nh wd hg) {kd : Nat → Nat → Int32} (hK : ∀ j, j < nh → mhKn I j (wd j) (hg j) (kd j)) {x y k : Int32} (hn : ¬ (vHs nh x ∧ vHs nh y ∧ (0 ≤ k ∧ k ≤ 9)) → Φ (some (.int (-1))) S F I J P) (hb : (vHs nh x ∧ vHs nh y ∧ (0 ≤ k ∧ k ≤ 9)) → x = y → Φ (some (.int (-2))) S F I J P) (hf : ∀ j j2, j < nh → j2 < nh → x = nI j → y = nI j2 → j ≠ j2 → (0 ≤ k ∧ k ≤ 9) → ¬ chOk wd hg kd j j2 → ∀ (F2 : mhF) (I2 : mhI) (J2 : mhJ), frQ F I J F2 I2 J2 → Φ (some (.int (-3))) S F2 I2 J2 P) (ht : ∀ j j2 q, j < nh → j2 < nh → x = nI j → y = nI j2 → j ≠ j2 → k = nI q → q ≤ 9 → (0 ≤ k ∧ k ≤ 9) → chOk wd hg kd j j2 → ∀ (F2 : mhF) (I2 : mhI) (J2 : mhJ), frQ F I J F2 I2 J2 → Φ (some (.int (chR wd hg kd j j2 q))) S F2 I2 J2 P) : mhOk l K mX7_change [.ref 21, .int x, .int y, .int k] S F I J P Φ := by
  refine mhOk.of (by decide) (by decide) rfl (Nat.le_of_ble_eq_true rfl) ?_
  refine mh_aload_0 dX7_change_0 (q := 1) rfl ?_
  refine mh_iload_1 dX7_change_1 (q := 2) rfl ?_
  refine mh_callV1 ca_X7_change_2 (shX7_0 hM.1) (q := 5) rfl (by simp [Value.category]) ⟨Nat.zero_le _, Nat.zero_le _⟩ ?_
  refine sp_X7_isHouse hM (fun j hj ej => ?_) (fun hk => ?_)
  · skip
    subst ej
    refine mh_if_eq dX7_change_5 (tgt := 26) (q := 8) rfl rfl (fun hh => False.elim (by revert hh; decide)) (fun _ => ?_)
    refine mh_aload_0 dX7_change_8 (q := 9) rfl ?_
    refine mh_iload_2 dX7_change_9 (q := 10) rfl ?_
    refine mh_callV1 ca_X7_change_10 (shX7_0 hM.1) (q := 13) rfl (by simp [Value.category]) ⟨Nat.zero_le _, Nat.zero_le _⟩ ?_
    refine sp_X7_isHouse hM (fun j2 hj2 ej2 => ?_) (fun hk2 => ?_)
    · skip
      subst ej2
      refine mh_if_eq dX7_change_13 (tgt := 26) (q := 16) rfl rfl (fun hh => False.elim (by revert hh; decide)) (fun _ => ?_)
      refine mh_iload_3 dX7_change_16 (q := 17) rfl ?_
      refine mh_iconst_0 dX7_change_17 (q := 18) rfl ?_
      refine mh_bipush (v := 9) dX7_change_18 (q := 20) rfl (by decide) ?_
      refine mh_callS3 ca_X7_change_20 (q := 23) rfl (by simp [Value.category]) ⟨Nat.zero_le _, Nat.zero_le _⟩ ?_
      refine sp_X7_within (fun ck => ?_) (fun ck => ?_)
      · skip
        refine mh_if_ne dX7_change_23 (tgt := 28) (q := 26) rfl rfl (fun _ => ?_) (fun hh => False.elim (by revert hh; decide))
        refine mh_aload_0 dX7_change_28 (q := 29) rfl ?_
        refine mh_iload_1 dX7_change_29 (q := 30) rfl ?_
        refine mh_iload_2 dX7_change_30 (q := 31) rfl ?_
        refine mh_callV2 ca_X7_change_31 (shX7_0 hM.1) (q := 34) rfl (by simp [Value.category]) ⟨Nat.zero_le _, Nat.zero_le _⟩ ?_
        refine sp_X7_whyNot hM hK (fun hv => ?_) (fun hv e => ?_) (fun j3 j4 hj3 hj4 ej3 ej4 hne hno F1 I1 g1 => ?_) (fun j3 j4 hj3 hj4 ej3 ej4 hne hOk F1 I1 hu g1 => ?_)
        · skip
          exact absurd ⟨⟨j, hj, rfl⟩, ⟨j2, hj2, rfl⟩⟩ hv
        · skip
          refine mh_istore_4 dX7_change_34 (q := 36) rfl ?_
          refine mh_iload_4 dX7_change_36 (q := 38) rfl ?_
          refine mh_if_eq dX7_change_38 (tgt := 44) (q := 41) rfl rfl (fun hh => False.elim (by revert hh; decide)) (fun _ => ?_)
          refine mh_iload_4 dX7_change_41 (q := 43) rfl ?_
          refine mh_ireturn dX7_change_43 rfl rfl ?_
          exact hb ⟨⟨j, hj, rfl⟩, ⟨j2, hj2, rfl⟩, ck⟩ e
        · skip
          have e3 := (nI_eq (by have := hM.2.1; omega) (by have := hM.2.1; omega)).mp ej3
          have e4 := (nI_eq (by have := hM.2.1; omega) (by have := hM.2.1; omega)).mp ej4
          subst e3
          subst e4
          refine mh_istore_4 dX7_change_34 (q := 36) rfl ?_
          refine mh_iload_4 dX7_change_36 (q := 38) rfl ?_
          refine mh_if_eq dX7_change_38 (tgt := 44) (q := 41) rfl rfl (fun hh => False.elim (by revert hh; decide)) (fun _ => ?_)
          refine mh_iload_4 dX7_change_41 (q := 43) rfl ?_
          refine mh_ireturn dX7_change_43 rfl rfl ?_
          exact hf j j2 hj hj2 rfl rfl hne ck hno F1 I1 J g1.q
        · skip
          have e3 := (nI_eq (by have := hM.2.1; omega) (by have := hM.2.1; omega)).mp ej3
          have e4 := (nI_eq (by have := hM.2.1; omega) (by have := hM.2.1; omega)).mp ej4
          subst e3
          subst e4
          refine mh_istore_4 dX7_change_34 (q := 36) rfl ?_
          refine mh_iload_4 dX7_change_36 (q := 38) rfl ?_
          refine mh_if_eq dX7_change_38 (tgt := 44) (q := 41) rfl rfl (fun _ => ?_) (fun hh => False.elim (by revert hh; decide))
          refine mh_aload_0 dX7_change_44 (q := 45) rfl ?_
          refine mh_iload_1 dX7_change_45 (q := 46) rfl ?_
          refine mh_iload_2 dX7_change_46 (q := 47) rfl ?_
          refine mh_callV2 ca_X7_change_47 (shX7_0 hM.1) (q := 50) rfl (by simp [Value.category]) ⟨Nat.zero_le _, Nat.zero_le _⟩ ?_
          have ul := ulS_le (kf := kd j) (kt := kd j2) (k := gSides (wd j) (hg j))
          have h3 := hM.2.1
          have hn10 := hOk.2.2
          have hk2 : mhKn I1 j2 (wd j) (hg j) (kd j2) := by
            have := (hK j2 hj2).frn g1
            rw [← hOk.1, ← hOk.2.1] at this
            exact this
          refine sp_X7_layRows hM.1 ((hM.2.2.2 j hj).frn g1) (by omega) hne ((hK j hj).frn g1) hk2 hOk.2.2 (fun i hi => ul.2.1 i hi) (fun i j q1 q2 => ul.2.2 i j q1 q2) hu (fun I2 J2 g2 t2 => ?_)
          have g3 : frQ F I J F1 I2 J2 := ⟨g1.1, fun b y e1 e2 e3 => (g2 b y e1 e3).trans (g1.2 b y e2)⟩
          have p0 : 0 < 2 ^ (ulS (kd j) (kd j2) (gSides (wd j) (hg j))).1 := Nat.two_pow_pos _
          have b31 := rwT_31 (w := wd j) (h := hg j) (kf := kd j) (kt := kd j2) (un := (ulS (kd j) (kd j2) (gSides (wd j) (hg j))).2) hOk.2.2 (Nat.le_refl _) p0
          have t0 : J2 51 (0 : Int32) = lN (chT wd hg kd j j2 0) := t2 0 p0
          obtain ⟨q, hq9, rfl⟩ : ∃ q, q ≤ 9 ∧ k = nI q := by
            obtain ⟨q, q1, q2⟩ := mh_of2 (n := 9) (M := 9) rfl ck.1 ck.2
            exact ⟨q, by omega, q2⟩
          have hx := ht j j2 q hj hj2 rfl rfl hne rfl hq9 ck hOk F1 I2 J2 g3
          unfold chR at hx
          refine mh_aload_0 dX7_change_50 (q := 51) rfl ?_
          refine mh_getR fl_X7_98 dX7_change_51 (q := 54) rfl (shX7_0 hM.1) rfl ?_
          refine mh_iconst_0 dX7_change_54 (q := 55) rfl ?_
          refine mh_lald dX7_change_55 (q := 56) rfl (shX7_30 hM.1) (vp_in_nI (n := 0) (by decide) (by decide)) ?_
          rw [t0]
          refine mh_lconst_0 dX7_change_56 (q := 57) rfl ?_
          refine mh_lcmp dX7_change_57 (q := 58) rfl ?_
          refine mh_if_eq dX7_change_58 (tgt := 69) (q := 61) rfl rfl (fun c58 => ?_) (fun c58 => ?_)
          · skip
            rw [lN_0 (show chT wd hg kd j j2 0 < 2 ^ 31 from b31)] at c58
            rw [if_pos c58] at hx
            refine mh_bipush (v := (-9)) dX7_change_69 (q := 71) rfl (by decide) ?_
            refine mh_ireturn dX7_change_71 rfl rfl ?_
            exact hx
          · skip
            rw [lN_0 (show chT wd hg kd j j2 0 < 2 ^ 31 from b31)] at c58
            rw [if_neg c58] at hx
            refine mh_iload_3 dX7_change_61 (q := 62) rfl ?_
            refine mh_aload_0 dX7_change_62 (q := 63) rfl ?_
            refine mh_getI fl_X7_261 dX7_change_63 (q := 66) rfl (shX7_0 hM.1) rfl ?_
            rw [hu.1]
            refine mh_icmp_lt dX7_change_66 (tgt := 72) (q := 69) rfl rfl (fun c66 => ?_) (fun c66 => ?_)
            · skip
              rw [nI_ltI (by omega) (by omega)] at c66
              refine mh_iconst_0 dX7_change_72 (q := 73) rfl ?_
              refine mh_istore_5 dX7_change_73 (q := 75) rfl ?_
              refine mh_iconst_0 dX7_change_75 (q := 76) rfl ?_
              refine mh_istore_6 dX7_change_76 (q := 78) rfl ?_
              refine mh_iconst_0 dX7_change_78 (q := 79) rfl ?_
              refine mh_istore_7 dX7_change_79 (q := 81) rfl ?_
              have hu2 : ulM F1 I2 _ _ := ⟨hu.1, fun i hi => (g2 _ _ (by decide) (by decide)).trans (hu.2 i hi)⟩
              exact lp_X7_change hM.1 hOk.2.2 hu2 t2 (Nat.pos_of_ne_zero c58) c66 hx (q + 1) 0 0 (Nat.zero_add _) (fun z => absurd z (Nat.lt_irrefl 0))
            · skip
              rw [nI_ltI (by omega) (by omega)] at c66
              refine mh_bipush (v := (-9)) dX7_change_69 (q := 71) rfl (by decide) ?_
              refine mh_ireturn dX7_change_71 rfl rfl ?_
              have e1 : ofR (chT wd hg kd j j2) (ulS (kd j) (kd j2) (gSides (wd j) (hg j))).1 (ulS (kd j) (kd j2) (gSides (wd j) (hg j))).2 q = -9 := if_neg c66
              rw [e1] at hx
              exact hx
      · skip
        refine mh_if_ne dX7_change_23 (tgt := 28) (q := 26) rfl rfl (fun hh => False.elim (by revert hh; decide)) (fun _ => ?_)
        refine mh_iconst_m1 dX7_change_26 (q := 27) rfl ?_
        refine mh_ireturn dX7_change_27 rfl rfl ?_
        exact hn (fun z => by first | exact hk z.1 | exact hk2 z.2.1 | exact ck z.2.2)
    · skip
      refine mh_if_eq dX7_change_13 (tgt := 26) (q := 16) rfl rfl (fun _ => ?_) (fun hh => False.elim (by revert hh; decide))
      refine mh_iconst_m1 dX7_change_26 (q := 27) rfl ?_
      refine mh_ireturn dX7_change_27 rfl rfl ?_
      exact hn (fun z => by first | exact hk z.1 | exact hk2 z.2.1 | exact ck z.2.2)
  · skip
    refine mh_if_eq dX7_change_5 (tgt := 26) (q := 8) rfl rfl (fun _ => ?_) (fun hh => False.elim (by revert hh; decide))
    refine mh_iconst_m1 dX7_change_26 (q := 27) rfl ?_
    refine mh_ireturn dX7_change_27 rfl rfl ?_
    exact hn (fun z => by first | exact hk z.1 | exact hk2 z.2.1 | exact ck z.2.2)
