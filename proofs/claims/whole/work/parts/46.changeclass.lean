/-! changed, change: the class -/
set_option maxHeartbeats 4000000 in
set_option maxRecDepth 100000 in
theorem lp_X0_first {l : Launch} {K : mhX} {kc ks : Nat} {Φ : mhQ} {S : List mhS} {F : mhF} {I : mhI} {J : mhJ} {P : mhP} (h0 : mhKX0 S) {n s : Nat} {T : Nat → Nat} (hn : n ≤ 10) (hs : s < 2 ^ n) (hF : F 10 1 = nI n) (hT : ∀ y, y < 2 ^ n → I 12 (nI y) = nI (T y)) (h31 : ∀ y, y < 2 ^ n → T y < 2 ^ 31) (hΦ : fgN T s n 0 < n → Φ (some (.int (nI (fgN T s n 0)))) S F I J P) (hno : fgN T s n 0 = n → Φ (some (.int (-9))) S F I J P) : ∀ (m k : Nat), k + m = n → fgN T s n 0 = fgN T s m k → mhV l K mX0_firstThatGoesOn kc ks Φ 2 [some (.ref 10), some (.int (nI s)), some (.int (nI k))] [] S F I J P := by
  have p2 : 2 ^ n ≤ 2 ^ 10 := Nat.pow_le_pow_right (by decide) hn
  intro m
  induction m with
  | zero =>
    intro k hk he
    obtain rfl : k = n := by omega
    refine mh_iload_2 dX0_firstThatGoesOn_2 (q := 3) rfl ?_
    refine mh_aload_0 dX0_firstThatGoesOn_3 (q := 4) rfl ?_
    refine mh_getI fl_X0_18 dX0_firstThatGoesOn_4 (q := 7) rfl (shX0_0 h0) rfl ?_
    rw [hF]
    refine mh_icmp_ge dX0_firstThatGoesOn_7 (tgt := 39) (q := 10) rfl rfl (fun _ => ?_) (fun hh => absurd (nI_le (Nat.le_refl _) (by omega)) hh)
    refine mh_bipush (v := (-9)) dX0_firstThatGoesOn_39 (q := 41) rfl (by decide) ?_
    refine mh_ireturn dX0_firstThatGoesOn_41 rfl rfl ?_
    exact hno he
  | succ m ih =>
    intro k hk he
    rw [fgN_s] at he
    have h9 := ih (k + 1) (by omega)
    refine mh_iload_2 dX0_firstThatGoesOn_2 (q := 3) rfl ?_
    refine mh_aload_0 dX0_firstThatGoesOn_3 (q := 4) rfl ?_
    refine mh_getI fl_X0_18 dX0_firstThatGoesOn_4 (q := 7) rfl (shX0_0 h0) rfl ?_
    rw [hF]
    refine mh_icmp_ge dX0_firstThatGoesOn_7 (tgt := 39) (q := 10) rfl rfl (fun hh => absurd hh (nI_ge (by omega) (by omega))) (fun _ => ?_)
    refine mh_iload_1 dX0_firstThatGoesOn_10 (q := 11) rfl ?_
    refine mh_iload_2 dX0_firstThatGoesOn_11 (q := 12) rfl ?_
    refine mh_ishr dX0_firstThatGoesOn_12 (q := 13) rfl ?_
    refine mh_iconst_1 dX0_firstThatGoesOn_13 (q := 14) rfl ?_
    refine mh_iand dX0_firstThatGoesOn_14 (q := 15) rfl ?_
    rw [nI_tb (by omega)]
    refine mh_if_ne dX0_firstThatGoesOn_15 (tgt := 33) (q := 18) rfl rfl (fun c15 => ?_) (fun c15 => ?_)
    · skip
      refine mh_iinc_2 (v := 1) dX0_firstThatGoesOn_33 (q := 36) rfl (by decide) ?_
      refine mh_goto dX0_firstThatGoesOn_36 (tgt := 2) rfl ?_
      rw [nI_1]
      rw [if_neg (fun z => c15 (if_neg (by rw [z.1]; decide)))] at he
      exact h9 he
    · skip
      have tb : s.testBit k = false := by
        cases hb : s.testBit k with
        | false => rfl
        | true => rw [if_pos hb] at c15; exact absurd c15 (by decide)
      have og := or_gt hs (show k < n by omega) tb
      refine mh_aload_0 dX0_firstThatGoesOn_18 (q := 19) rfl ?_
      refine mh_getR fl_X0_15 dX0_firstThatGoesOn_19 (q := 22) rfl (shX0_0 h0) rfl ?_
      refine mh_iload_1 dX0_firstThatGoesOn_22 (q := 23) rfl ?_
      refine mh_iconst_1 dX0_firstThatGoesOn_23 (q := 24) rfl ?_
      refine mh_iload_2 dX0_firstThatGoesOn_24 (q := 25) rfl ?_
      refine mh_ishl dX0_firstThatGoesOn_25 (q := 26) rfl ?_
      refine mh_ior dX0_firstThatGoesOn_26 (q := 27) rfl ?_
      rw [nI_or (by omega)]
      refine mh_iald dX0_firstThatGoesOn_27 (q := 28) rfl (shX0_2 h0) (vp_in_nI (by omega) (by decide)) ?_
      rw [hT _ og.2]
      refine mh_if_le dX0_firstThatGoesOn_28 (tgt := 33) (q := 31) rfl rfl (fun c28 => ?_) (fun c28 => ?_)
      · skip
        refine mh_iinc_2 (v := 1) dX0_firstThatGoesOn_33 (q := 36) rfl (by decide) ?_
        refine mh_goto dX0_firstThatGoesOn_36 (tgt := 2) rfl ?_
        rw [nI_1]
        rw [show (0 : Int32) = nI 0 from rfl, nI_leI (h31 _ og.2) (by decide)] at c28
        rw [if_neg (fun z => by omega)] at he
        exact h9 he
      · skip
        refine mh_iload_2 dX0_firstThatGoesOn_31 (q := 32) rfl ?_
        refine mh_ireturn dX0_firstThatGoesOn_32 rfl rfl ?_
        rw [show (0 : Int32) = nI 0 from rfl, nI_leI (h31 _ og.2) (by decide)] at c28
        rw [if_pos ⟨tb, by omega⟩] at he
        have hx := hΦ (by omega)
        rw [he] at hx
        exact hx
set_option maxHeartbeats 4000000 in
set_option maxRecDepth 100000 in
theorem sp_X0_firstThatGoesOn {l : Launch} {K : mhX} {Φ : mhQ} {S : List mhS} {F : mhF} {I : mhI} {J : mhJ} {P : mhP} (h0 : mhKX0 S) {n s : Nat} {T : Nat → Nat} (hn : n ≤ 10) (hs : s < 2 ^ n) (hF : F 10 1 = nI n) (hT : ∀ y, y < 2 ^ n → I 12 (nI y) = nI (T y)) (h31 : ∀ y, y < 2 ^ n → T y < 2 ^ 31) (hΦ : fgN T s n 0 < n → Φ (some (.int (nI (fgN T s n 0)))) S F I J P) (hno : fgN T s n 0 = n → Φ (some (.int (-9))) S F I J P) : mhOk l K mX0_firstThatGoesOn [.ref 10, .int (nI s)] S F I J P Φ := by
  refine mhOk.of (by decide) (by decide) rfl (Nat.le_of_ble_eq_true rfl) ?_
  refine mh_iconst_0 dX0_firstThatGoesOn_0 (q := 1) rfl ?_
  refine mh_istore_2 dX0_firstThatGoesOn_1 (q := 2) rfl ?_
  exact lp_X0_first (kc := mX0_firstThatGoesOn.2.2.2.2.cells) (ks := mX0_firstThatGoesOn.2.2.2.2.slots) h0 hn hs hF hT h31 hΦ hno n 0 (Nat.zero_add _) rfl
noncomputable def ofR (T : Nat → Nat) (n : Nat) (un : Nat → Nat) (k : Nat) : Int32 := if k < n then nI (un (fgN T (chN T n k) n 0)) else -9
set_option maxHeartbeats 4000000 in
set_option maxRecDepth 100000 in
theorem lp_X0_ofFirstRow {l : Launch} {K : mhX} {kc ks : Nat} {Φ : mhQ} {S : List mhS} {F : mhF} {I : mhI} {J : mhJ} {P : mhP} (h0 : mhKX0 S) {n w h q : Nat} {kf kt : Nat → Int32} {un : Nat → Nat} (hn : n ≤ 10) (hu : ulC F I n un) (hT : ∀ y, y < 2 ^ n → I 12 (nI y) = nI ((rwT w h kf kt un n (2 ^ n)) y)) (hp : 0 < (rwT w h kf kt un n (2 ^ n)) 0) (hq : q < 100) (hΦ : Φ (some (.int (ofR (rwT w h kf kt un n (2 ^ n)) n un q))) S F I J P) : ∀ (m s : Nat) (la : Int32) (o5 : Option Value), s + m = q + 1 → s ≤ n → (0 < s → la = nI (un (fgN (rwT w h kf kt un n (2 ^ n)) (chN (rwT w h kf kt un n (2 ^ n)) n (s - 1)) n 0))) → mhV l K mX0_ofFirstRow kc ks Φ 8 [some (.ref 10), some (.int (nI q)), some (.int (nI (chN (rwT w h kf kt un n (2 ^ n)) n s))), some (.int la), some (.int (nI s)), o5] [] S F I J P := by
  have p2 : 2 ^ n ≤ 2 ^ 10 := Nat.pow_le_pow_right (by decide) hn
  intro m
  induction m with
  | zero =>
    intro s la o5 hs hsn hla
    have e1 : ofR (rwT w h kf kt un n (2 ^ n)) n un q = la := by unfold ofR; rw [if_pos (by omega), hla (by omega), show s - 1 = q by omega]
    rw [e1] at hΦ
    refine mh_iload_4 dX0_ofFirstRow_8 (q := 10) rfl ?_
    refine mh_iload_1 dX0_ofFirstRow_10 (q := 11) rfl ?_
    refine mh_icmp_gt dX0_ofFirstRow_11 (tgt := 64) (q := 14) rfl rfl (fun _ => ?_) (fun hh => absurd (show nI q < nI s from nI_lt (by omega) (by omega)) hh)
    refine mh_iload_3 dX0_ofFirstRow_64 (q := 65) rfl ?_
    refine mh_ireturn dX0_ofFirstRow_65 rfl rfl ?_
    exact hΦ
  | succ m ih =>
    intro s la o5 hs hsn hla
    refine mh_iload_4 dX0_ofFirstRow_8 (q := 10) rfl ?_
    refine mh_iload_1 dX0_ofFirstRow_10 (q := 11) rfl ?_
    refine mh_icmp_gt dX0_ofFirstRow_11 (tgt := 64) (q := 14) rfl rfl (fun hh => absurd hh (show ¬ nI q < nI s from Int32.not_lt.mpr ((nI_leI (by omega) (by omega)).mpr (by omega)))) (fun _ => ?_)
    refine mh_iload_4 dX0_ofFirstRow_14 (q := 16) rfl ?_
    refine mh_aload_0 dX0_ofFirstRow_16 (q := 17) rfl ?_
    refine mh_getI fl_X0_18 dX0_ofFirstRow_17 (q := 20) rfl (shX0_0 h0) rfl ?_
    rw [hu.1]
    refine mh_icmp_lt dX0_ofFirstRow_20 (tgt := 26) (q := 23) rfl rfl (fun c20 => ?_) (fun c20 => ?_)
    · skip
      rw [nI_ltI (by omega) (by omega)] at c20
      have ck := ch_ok hp (s := s) (by omega)
      have fk := fg_ok hp c20
      refine mh_aload_0 dX0_ofFirstRow_26 (q := 27) rfl ?_
      refine mh_iload_2 dX0_ofFirstRow_27 (q := 28) rfl ?_
      refine mh_callV1 ca_X0_ofFirstRow_28 (shX0_0 h0) (q := 31) rfl (by simp [Value.category]) ⟨Nat.zero_le _, Nat.zero_le _⟩ ?_
      refine sp_X0_firstThatGoesOn h0 hn ck.1 hu.1 hT (fun y hy => rwT_31 hn (Nat.le_refl _) hy) (fun _ => ?_) (fun z => absurd z (by omega))
      refine mh_istore_5 dX0_ofFirstRow_31 (q := 33) rfl ?_
      refine mh_iload_5 dX0_ofFirstRow_33 (q := 35) rfl ?_
      refine mh_bipush (v := (-9)) dX0_ofFirstRow_35 (q := 37) rfl (by decide) ?_
      refine mh_icmp_ne dX0_ofFirstRow_37 (tgt := 43) (q := 40) rfl rfl (fun _ => ?_) (fun hh => absurd hh (mh_n9 (by omega)))
      refine mh_iload_2 dX0_ofFirstRow_43 (q := 44) rfl ?_
      refine mh_iconst_1 dX0_ofFirstRow_44 (q := 45) rfl ?_
      refine mh_iload_5 dX0_ofFirstRow_45 (q := 47) rfl ?_
      refine mh_ishl dX0_ofFirstRow_47 (q := 48) rfl ?_
      refine mh_ior dX0_ofFirstRow_48 (q := 49) rfl ?_
      rw [nI_or (by omega)]
      refine mh_istore_2 dX0_ofFirstRow_49 (q := 50) rfl ?_
      refine mh_aload_0 dX0_ofFirstRow_50 (q := 51) rfl ?_
      refine mh_getR fl_X0_9 dX0_ofFirstRow_51 (q := 54) rfl (shX0_0 h0) rfl ?_
      refine mh_iload_5 dX0_ofFirstRow_54 (q := 56) rfl ?_
      refine mh_iald dX0_ofFirstRow_56 (q := 57) rfl (shX0_1 h0) (vp_in_nI (by omega) (by decide)) ?_
      rw [hu.2 _ fk.1]
      refine mh_istore_3 dX0_ofFirstRow_57 (q := 58) rfl ?_
      refine mh_iinc_4 (v := 1) dX0_ofFirstRow_58 (q := 61) rfl (by decide) ?_
      refine mh_goto dX0_ofFirstRow_61 (tgt := 8) rfl ?_
      rw [nI_1]
      exact ih (s + 1) _ _ (by omega) (by omega) (fun _ => rfl)
    · skip
      rw [nI_ltI (by omega) (by omega)] at c20
      refine mh_bipush (v := (-9)) dX0_ofFirstRow_23 (q := 25) rfl (by decide) ?_
      refine mh_ireturn dX0_ofFirstRow_25 rfl rfl ?_
      have e1 : ofR (rwT w h kf kt un n (2 ^ n)) n un q = -9 := if_neg (by omega)
      rw [e1] at hΦ
      exact hΦ
set_option maxHeartbeats 4000000 in
set_option maxRecDepth 100000 in
theorem sp_X0_ofFirstRow {l : Launch} {K : mhX} {Φ : mhQ} {S : List mhS} {F : mhF} {I : mhI} {J : mhJ} {P : mhP} (h0 : mhKX0 S) {n w h q : Nat} {kf kt : Nat → Int32} {un : Nat → Nat} (hn : n ≤ 10) (hu : ulC F I n un) (hT : ∀ y, y < 2 ^ n → I 12 (nI y) = nI ((rwT w h kf kt un n (2 ^ n)) y)) (hp : 0 < (rwT w h kf kt un n (2 ^ n)) 0) (hq : q < 100) (hΦ : Φ (some (.int (ofR (rwT w h kf kt un n (2 ^ n)) n un q))) S F I J P) : mhOk l K mX0_ofFirstRow [.ref 10, .int (nI q)] S F I J P Φ := by
  refine mhOk.of (by decide) (by decide) rfl (Nat.le_of_ble_eq_true rfl) ?_
  refine mh_iconst_0 dX0_ofFirstRow_0 (q := 1) rfl ?_
  refine mh_istore_2 dX0_ofFirstRow_1 (q := 2) rfl ?_
  refine mh_bipush (v := (-9)) dX0_ofFirstRow_2 (q := 4) rfl (by decide) ?_
  refine mh_istore_3 dX0_ofFirstRow_4 (q := 5) rfl ?_
  refine mh_iconst_0 dX0_ofFirstRow_5 (q := 6) rfl ?_
  refine mh_istore_4 dX0_ofFirstRow_6 (q := 8) rfl ?_
  exact lp_X0_ofFirstRow (kc := mX0_ofFirstRow.2.2.2.2.cells) (ks := mX0_ofFirstRow.2.2.2.2.slots) h0 hn hu hT hp hq hΦ (q + 1) 0 _ _ (Nat.zero_add _) (Nat.zero_le _) (fun z => absurd z (Nat.lt_irrefl 0))
/-- houses that can be changed into one another -/
def chOk (wd hg : Nat → Nat) (kd : Nat → Nat → Int32) (j j2 : Nat) : Prop := wd j = wd j2 ∧ hg j = hg j2 ∧ (ulS (kd j) (kd j2) (gSides (wd j) (hg j))).1 ≤ 10
/-- how many rows there are from each set on -/
noncomputable def chT (wd hg : Nat → Nat) (kd : Nat → Nat → Int32) (j j2 : Nat) : Nat → Nat := rwT (wd j) (hg j) (kd j) (kd j2) (ulS (kd j) (kd j2) (gSides (wd j) (hg j))).2 (ulS (kd j) (kd j2) (gSides (wd j) (hg j))).1 (2 ^ (ulS (kd j) (kd j2) (gSides (wd j) (hg j))).1)
noncomputable def chR (wd hg : Nat → Nat) (kd : Nat → Nat → Int32) (j j2 q : Nat) : Int32 := if chT wd hg kd j j2 0 = 0 then -9 else ofR (chT wd hg kd j j2) (ulS (kd j) (kd j2) (gSides (wd j) (hg j))).1 (ulS (kd j) (kd j2) (gSides (wd j) (hg j))).2 q
set_option maxHeartbeats 4000000 in
set_option maxRecDepth 100000 in
theorem sp_X6_changed {l : Launch} {K : mhX} {Φ : mhQ} {S : List mhS} {F : mhF} {I : mhI} {J : mhJ} {P : mhP} (h0 : mhKX0 S) {nh : Nat} {wd hg aH : Nat → Nat} (hC : mhHC S F I P nh wd hg aH) {kd : Nat → Nat → Int32} (hK : ∀ j, j < nh → mhPn I (aH j) (wd j) (hg j) (kd j)) (hD : ∀ j j2, j < nh → j2 < nh → j ≠ j2 → aH j + 11 ≤ aH j2 ∨ aH j2 + 11 ≤ aH j) {x y : Int32} (hn : ¬ (vHs nh x ∧ vHs nh y ∧ ¬ x = y) → Φ (some (.long (-9223372036854775808))) S F I J P) (hf : ∀ j j2, j < nh → j2 < nh → x = nI j → y = nI j2 → j ≠ j2 → ¬ chOk wd hg kd j j2 → ∀ (F2 : mhF) (I2 : mhI), frP (aH j) F I F2 I2 → Φ (some (.long (-9223372036854775808))) S F2 I2 J P) (ht : ∀ j j2, j < nh → j2 < nh → x = nI j → y = nI j2 → j ≠ j2 → chOk wd hg kd j j2 → ∀ (F2 : mhF) (I2 : mhI), frP (aH j) F I F2 I2 → Φ (some (.long (lN (chT wd hg kd j j2 0)))) S F2 I2 J P) : mhOk l K mX6_changed [.ref 0, .int x, .int y] S F I J P Φ := by
  refine mhOk.of (by decide) (by decide) rfl (Nat.le_of_ble_eq_true rfl) ?_
  refine mh_aload_0 dX6_changed_0 (q := 1) rfl ?_
  refine mh_iload_1 dX6_changed_1 (q := 2) rfl ?_
  refine mh_callV1 ca_X6_changed_2 (shX6_0 hC.1) (q := 5) rfl (by simp [Value.category]) ⟨Nat.zero_le _, Nat.zero_le _⟩ ?_
  refine sp_X6_houseAt hC (fun hk => ?_) (fun j hj ej => ?_)
  · skip
    refine mh_astoreN_3 dX6_changed_5 (q := 6) rfl ?_
    refine mh_aload_0 dX6_changed_6 (q := 7) rfl ?_
    refine mh_iload_2 dX6_changed_7 (q := 8) rfl ?_
    refine mh_callV1 ca_X6_changed_8 (shX6_0 hC.1) (q := 11) rfl (by simp [Value.category]) ⟨Nat.zero_le _, Nat.zero_le _⟩ ?_
    refine sp_X6_houseAt hC (fun hk2 => ?_) (fun j2 hj2 ej2 => ?_)
    · skip
      refine mh_astoreN_4 dX6_changed_11 (q := 13) rfl ?_
      refine mh_aloadN_3 dX6_changed_13 (q := 14) rfl ?_
      refine mh_ifnullN dX6_changed_14 (tgt := 27) rfl ?_
      refine mh_ldc2_w dX6_changed_27 (q := 30) rfl wd_708 ?_
      refine mh_lreturn dX6_changed_30 rfl ?_
      refine hn (fun z => ?_)
      first
      | exact hk z.1
      | exact hk2 z.2.1
      | exact z.2.2 c24
    · skip
      subst ej2
      refine mh_astore_4 dX6_changed_11 (q := 13) rfl ?_
      refine mh_aloadN_3 dX6_changed_13 (q := 14) rfl ?_
      refine mh_ifnullN dX6_changed_14 (tgt := 27) rfl ?_
      refine mh_ldc2_w dX6_changed_27 (q := 30) rfl wd_708 ?_
      refine mh_lreturn dX6_changed_30 rfl ?_
      refine hn (fun z => ?_)
      first
      | exact hk z.1
      | exact hk2 z.2.1
      | exact z.2.2 c24
  · skip
    subst ej
    refine mh_astore_3 dX6_changed_5 (q := 6) rfl ?_
    refine mh_aload_0 dX6_changed_6 (q := 7) rfl ?_
    refine mh_iload_2 dX6_changed_7 (q := 8) rfl ?_
    refine mh_callV1 ca_X6_changed_8 (shX6_0 hC.1) (q := 11) rfl (by simp [Value.category]) ⟨Nat.zero_le _, Nat.zero_le _⟩ ?_
    refine sp_X6_houseAt hC (fun hk2 => ?_) (fun j2 hj2 ej2 => ?_)
    · skip
      refine mh_astoreN_4 dX6_changed_11 (q := 13) rfl ?_
      refine mh_aload_3 dX6_changed_13 (q := 14) rfl ?_
      refine mh_ifnullR dX6_changed_14 (q := 17) rfl ?_
      refine mh_aloadN_4 dX6_changed_17 (q := 19) rfl ?_
      refine mh_ifnullN dX6_changed_19 (tgt := 27) rfl ?_
      refine mh_ldc2_w dX6_changed_27 (q := 30) rfl wd_708 ?_
      refine mh_lreturn dX6_changed_30 rfl ?_
      refine hn (fun z => ?_)
      first
      | exact hk z.1
      | exact hk2 z.2.1
      | exact z.2.2 c24
    · skip
      subst ej2
      refine mh_astore_4 dX6_changed_11 (q := 13) rfl ?_
      refine mh_aload_3 dX6_changed_13 (q := 14) rfl ?_
      refine mh_ifnullR dX6_changed_14 (q := 17) rfl ?_
      refine mh_aload_4 dX6_changed_17 (q := 19) rfl ?_
      refine mh_ifnullR dX6_changed_19 (q := 22) rfl ?_
      refine mh_iload_1 dX6_changed_22 (q := 23) rfl ?_
      refine mh_iload_2 dX6_changed_23 (q := 24) rfl ?_
      refine mh_icmp_ne dX6_changed_24 (tgt := 31) (q := 27) rfl rfl (fun c24 => ?_) (fun c24 => ?_)
      · skip
        have hne : j ≠ j2 := fun e => c24 (by rw [e])
        refine mh_aload_0 dX6_changed_31 (q := 32) rfl ?_
        refine mh_getR fl_X6_49 dX6_changed_32 (q := 35) rfl (shX6_0 hC.1) rfl ?_
        refine mh_aload_3 dX6_changed_35 (q := 36) rfl ?_
        refine mh_aload_4 dX6_changed_36 (q := 38) rfl ?_
        refine mh_callV2 ca_X6_changed_38 (shX0_0 h0) (q := 41) rfl (by simp [Value.category]) ⟨Nat.zero_le _, Nat.zero_le _⟩ ?_
        refine sp_X0_compare h0 (hC.2.2.2 j hj).2 (hC.2.2.2 j2 hj2).2 (hK j hj) (hK j2 hj2) (fun ew eh F1 I1 h10 hu f1 f2 => ?_) (fun F1 I1 hno f1 f2 => ?_)
        all_goals (
          have frq : ∀ c, 52 ≤ c → frP c F I F1 I1 := fun c hc => ⟨fun b k _ e => f1 b k e, fun b y _ e _ => f2 b y e⟩
          have a52 := (hC.2.2.2 j hj).2.2.2.2.2.2.2.2.2.2.2
          have b52 := (hC.2.2.2 j2 hj2).2.2.2.2.2.2.2.2.2.2.2)
        · skip
          refine mh_if_eq dX6_changed_41 (tgt := 58) (q := 44) rfl rfl (fun hh => False.elim (by revert hh; decide)) (fun _ => ?_)
          refine mh_aload_0 dX6_changed_44 (q := 45) rfl ?_
          refine mh_getR fl_X6_49 dX6_changed_45 (q := 48) rfl (shX6_0 hC.1) rfl ?_
          refine mh_aload_3 dX6_changed_48 (q := 49) rfl ?_
          refine mh_aload_4 dX6_changed_49 (q := 51) rfl ?_
          refine mh_callV2 ca_X6_changed_51 (shX0_0 h0) (q := 54) rfl (by simp [Value.category]) ⟨Nat.zero_le _, Nat.zero_le _⟩ ?_
          have ul := ulS_le (kf := kd j) (kt := kd j2) (k := gSides (wd j) (hg j))
          have hbd := gBd (hC.2.2.2 j hj).2.2.1
          have hG2 : mhHs S F1 I1 (aH j2) (wd j) (hg j) := by
            have := (hC.2.2.2 j2 hj2).2.frp (frq _ b52)
            rw [← ew, ← eh] at this
            exact this
          have hq2 : mhPn I1 (aH j2) (wd j) (hg j) (kd j2) := by
            have := (hK j2 hj2).frp (frq _ b52) b52
            rw [← ew, ← eh] at this
            exact this
          refine sp_X0_countRows h0 (hD j j2 hj hj2 hne) h10 (fun i hi => ul.2.1 i hi) (fun i j q1 q2 => ul.2.2 i j q1 q2) ((hC.2.2.2 j hj).2.frp (frq _ a52)) hG2 ((hK j hj).frp (frq _ a52) a52) hq2 hu (fun I2 t2 g2 w2 => ?_)
          have hu2 : ulC F1 I2 _ _ := ⟨hu.1, fun i hi => (w2 _).trans (hu.2 i hi)⟩
          have hOk : chOk wd hg kd j j2 := ⟨ew, eh, h10⟩
          have p0 : 0 < 2 ^ (ulS (kd j) (kd j2) (gSides (wd j) (hg j))).1 := Nat.two_pow_pos _
          have b31 := rwT_31 (w := wd j) (h := hg j) (kf := kd j) (kt := kd j2) (un := (ulS (kd j) (kd j2) (gSides (wd j) (hg j))).2) h10 (Nat.le_refl _) p0
          refine mh_i2l dX6_changed_54 (q := 55) rfl ?_
          rw [nI_l b31]
          refine mh_goto dX6_changed_55 (tgt := 61) rfl ?_
          refine mh_lreturn dX6_changed_61 rfl ?_
          exact ht j j2 hj hj2 rfl rfl hne hOk F1 I2 ((frq _ a52).tr g2)
        · skip
          refine mh_if_eq dX6_changed_41 (tgt := 58) (q := 44) rfl rfl (fun _ => ?_) (fun hh => False.elim (by revert hh; decide))
          refine mh_ldc2_w dX6_changed_58 (q := 61) rfl wd_708 ?_
          refine mh_lreturn dX6_changed_61 rfl ?_
          exact hf j j2 hj hj2 rfl rfl hne (fun z => hno z) F1 I1 (frq _ a52)
      · skip
        refine mh_ldc2_w dX6_changed_27 (q := 30) rfl wd_708 ?_
        refine mh_lreturn dX6_changed_30 rfl ?_
        refine hn (fun z => ?_)
        first
        | exact hk z.1
        | exact hk2 z.2.1
        | exact z.2.2 c24
set_option maxHeartbeats 4000000 in
set_option maxRecDepth 100000 in
theorem sp_X6_change {l : Launch} {K : mhX} {Φ : mhQ} {S : List mhS} {F : mhF} {I : mhI} {J : mhJ} {P : mhP} (h0 : mhKX0 S) {nh : Nat} {wd hg aH : Nat → Nat} (hC : mhHC S F I P nh wd hg aH) {kd : Nat → Nat → Int32} (hK : ∀ j, j < nh → mhPn I (aH j) (wd j) (hg j) (kd j)) (hD : ∀ j j2, j < nh → j2 < nh → j ≠ j2 → aH j + 11 ≤ aH j2 ∨ aH j2 + 11 ≤ aH j) {x y k : Int32} (hn : ¬ (vHs nh x ∧ vHs nh y ∧ (0 ≤ k ∧ k ≤ 9)) → Φ (some (.int (-1))) S F I J P) (hb : (vHs nh x ∧ vHs nh y ∧ (0 ≤ k ∧ k ≤ 9)) → x = y → Φ (some (.int (-2))) S F I J P) (hf : ∀ j j2, j < nh → j2 < nh → x = nI j → y = nI j2 → j ≠ j2 → (0 ≤ k ∧ k ≤ 9) → ¬ chOk wd hg kd j j2 → ∀ (F2 : mhF) (I2 : mhI), frP (aH j) F I F2 I2 → Φ (some (.int (-3))) S F2 I2 J P) (ht : ∀ j j2 q, j < nh → j2 < nh → x = nI j → y = nI j2 → j ≠ j2 → k = nI q → q ≤ 9 → (0 ≤ k ∧ k ≤ 9) → chOk wd hg kd j j2 → ∀ (F2 : mhF) (I2 : mhI), frP (aH j) F I F2 I2 → Φ (some (.int (chR wd hg kd j j2 q))) S F2 I2 J P) : mhOk l K mX6_change [.ref 0, .int x, .int y, .int k] S F I J P Φ := by
  refine mhOk.of (by decide) (by decide) rfl (Nat.le_of_ble_eq_true rfl) ?_
  refine mh_aload_0 dX6_change_0 (q := 1) rfl ?_
  refine mh_iload_1 dX6_change_1 (q := 2) rfl ?_
  refine mh_callV1 ca_X6_change_2 (shX6_0 hC.1) (q := 5) rfl (by simp [Value.category]) ⟨Nat.zero_le _, Nat.zero_le _⟩ ?_
  refine sp_X6_houseAt hC (fun hk => ?_) (fun j hj ej => ?_)
  · skip
    refine mh_astoreN_4 dX6_change_5 (q := 7) rfl ?_
    refine mh_aload_0 dX6_change_7 (q := 8) rfl ?_
    refine mh_iload_2 dX6_change_8 (q := 9) rfl ?_
    refine mh_callV1 ca_X6_change_9 (shX6_0 hC.1) (q := 12) rfl (by simp [Value.category]) ⟨Nat.zero_le _, Nat.zero_le _⟩ ?_
    refine sp_X6_houseAt hC (fun hk2 => ?_) (fun j2 hj2 ej2 => ?_)
    · skip
      refine mh_astoreN_5 dX6_change_12 (q := 14) rfl ?_
      refine mh_aloadN_4 dX6_change_14 (q := 16) rfl ?_
      refine mh_ifnullN dX6_change_16 (tgt := 34) rfl ?_
      refine mh_iconst_m1 dX6_change_34 (q := 35) rfl ?_
      refine mh_ireturn dX6_change_35 rfl rfl ?_
      refine hn (fun z => ?_)
      first
      | exact hk z.1
      | exact hk2 z.2.1
      | exact ck z.2.2
    · skip
      subst ej2
      refine mh_astore_5 dX6_change_12 (q := 14) rfl ?_
      refine mh_aloadN_4 dX6_change_14 (q := 16) rfl ?_
      refine mh_ifnullN dX6_change_16 (tgt := 34) rfl ?_
      refine mh_iconst_m1 dX6_change_34 (q := 35) rfl ?_
      refine mh_ireturn dX6_change_35 rfl rfl ?_
      refine hn (fun z => ?_)
      first
      | exact hk z.1
      | exact hk2 z.2.1
      | exact ck z.2.2
  · skip
    subst ej
    refine mh_astore_4 dX6_change_5 (q := 7) rfl ?_
    refine mh_aload_0 dX6_change_7 (q := 8) rfl ?_
    refine mh_iload_2 dX6_change_8 (q := 9) rfl ?_
    refine mh_callV1 ca_X6_change_9 (shX6_0 hC.1) (q := 12) rfl (by simp [Value.category]) ⟨Nat.zero_le _, Nat.zero_le _⟩ ?_
    refine sp_X6_houseAt hC (fun hk2 => ?_) (fun j2 hj2 ej2 => ?_)
    · skip
      refine mh_astoreN_5 dX6_change_12 (q := 14) rfl ?_
      refine mh_aload_4 dX6_change_14 (q := 16) rfl ?_
      refine mh_ifnullR dX6_change_16 (q := 19) rfl ?_
      refine mh_aloadN_5 dX6_change_19 (q := 21) rfl ?_
      refine mh_ifnullN dX6_change_21 (tgt := 34) rfl ?_
      refine mh_iconst_m1 dX6_change_34 (q := 35) rfl ?_
      refine mh_ireturn dX6_change_35 rfl rfl ?_
      refine hn (fun z => ?_)
      first
      | exact hk z.1
      | exact hk2 z.2.1
      | exact ck z.2.2
    · skip
      subst ej2
      refine mh_astore_5 dX6_change_12 (q := 14) rfl ?_
      refine mh_aload_4 dX6_change_14 (q := 16) rfl ?_
      refine mh_ifnullR dX6_change_16 (q := 19) rfl ?_
      refine mh_aload_5 dX6_change_19 (q := 21) rfl ?_
      refine mh_ifnullR dX6_change_21 (q := 24) rfl ?_
      refine mh_iload_3 dX6_change_24 (q := 25) rfl ?_
      refine mh_iconst_0 dX6_change_25 (q := 26) rfl ?_
      refine mh_bipush (v := 9) dX6_change_26 (q := 28) rfl (by decide) ?_
      refine mh_callS3 ca_X6_change_28 (q := 31) rfl (by simp [Value.category]) ⟨Nat.zero_le _, Nat.zero_le _⟩ ?_
      refine sp_X6_within (fun ck => ?_) (fun ck => ?_)
      · skip
        refine mh_if_ne dX6_change_31 (tgt := 36) (q := 34) rfl rfl (fun _ => ?_) (fun hh => False.elim (by revert hh; decide))
        refine mh_iload_1 dX6_change_36 (q := 37) rfl ?_
        refine mh_iload_2 dX6_change_37 (q := 38) rfl ?_
        refine mh_icmp_ne dX6_change_38 (tgt := 44) (q := 41) rfl rfl (fun c38 => ?_) (fun c38 => ?_)
        · skip
          have hne : j ≠ j2 := fun e => c38 (by rw [e])
          refine mh_aload_0 dX6_change_44 (q := 45) rfl ?_
          refine mh_getR fl_X6_49 dX6_change_45 (q := 48) rfl (shX6_0 hC.1) rfl ?_
          refine mh_aload_4 dX6_change_48 (q := 50) rfl ?_
          refine mh_aload_5 dX6_change_50 (q := 52) rfl ?_
          refine mh_callV2 ca_X6_change_52 (shX0_0 h0) (q := 55) rfl (by simp [Value.category]) ⟨Nat.zero_le _, Nat.zero_le _⟩ ?_
          refine sp_X0_compare h0 (hC.2.2.2 j hj).2 (hC.2.2.2 j2 hj2).2 (hK j hj) (hK j2 hj2) (fun ew eh F1 I1 h10 hu f1 f2 => ?_) (fun F1 I1 hno f1 f2 => ?_)
          all_goals (
            have frq : ∀ c, 52 ≤ c → frP c F I F1 I1 := fun c hc => ⟨fun b k _ e => f1 b k e, fun b y _ e _ => f2 b y e⟩
            have a52 := (hC.2.2.2 j hj).2.2.2.2.2.2.2.2.2.2.2
            have b52 := (hC.2.2.2 j2 hj2).2.2.2.2.2.2.2.2.2.2.2)
          · skip
            refine mh_if_ne dX6_change_55 (tgt := 61) (q := 58) rfl rfl (fun _ => ?_) (fun hh => False.elim (by revert hh; decide))
            refine mh_aload_0 dX6_change_61 (q := 62) rfl ?_
            refine mh_getR fl_X6_49 dX6_change_62 (q := 65) rfl (shX6_0 hC.1) rfl ?_
            refine mh_aload_4 dX6_change_65 (q := 67) rfl ?_
            refine mh_aload_5 dX6_change_67 (q := 69) rfl ?_
            refine mh_callV2 ca_X6_change_69 (shX0_0 h0) (q := 72) rfl (by simp [Value.category]) ⟨Nat.zero_le _, Nat.zero_le _⟩ ?_
            obtain ⟨q, hq9, rfl⟩ : ∃ q, q ≤ 9 ∧ k = nI q := by
              obtain ⟨q, q1, q2⟩ := mh_of2 (n := 9) (M := 9) rfl ck.1 ck.2
              exact ⟨q, by omega, q2⟩
            have ul := ulS_le (kf := kd j) (kt := kd j2) (k := gSides (wd j) (hg j))
            have hbd := gBd (hC.2.2.2 j hj).2.2.1
            have hG2 : mhHs S F1 I1 (aH j2) (wd j) (hg j) := by
              have := (hC.2.2.2 j2 hj2).2.frp (frq _ b52)
              rw [← ew, ← eh] at this
              exact this
            have hq2 : mhPn I1 (aH j2) (wd j) (hg j) (kd j2) := by
              have := (hK j2 hj2).frp (frq _ b52) b52
              rw [← ew, ← eh] at this
              exact this
            refine sp_X0_countRows h0 (hD j j2 hj hj2 hne) h10 (fun i hi => ul.2.1 i hi) (fun i j q1 q2 => ul.2.2 i j q1 q2) ((hC.2.2.2 j hj).2.frp (frq _ a52)) hG2 ((hK j hj).frp (frq _ a52) a52) hq2 hu (fun I2 t2 g2 w2 => ?_)
            have hu2 : ulC F1 I2 _ _ := ⟨hu.1, fun i hi => (w2 _).trans (hu.2 i hi)⟩
            have hOk : chOk wd hg kd j j2 := ⟨ew, eh, h10⟩
            have p0 : 0 < 2 ^ (ulS (kd j) (kd j2) (gSides (wd j) (hg j))).1 := Nat.two_pow_pos _
            have b31 := rwT_31 (w := wd j) (h := hg j) (kf := kd j) (kt := kd j2) (un := (ulS (kd j) (kd j2) (gSides (wd j) (hg j))).2) h10 (Nat.le_refl _) p0
            have hx := ht j j2 q hj hj2 rfl rfl hne rfl hq9 ck hOk F1 I2 ((frq _ a52).tr g2)
            unfold chR chT at hx
            refine mh_if_ne dX6_change_72 (tgt := 80) (q := 75) rfl rfl (fun c72 => ?_) (fun c72 => ?_)
            · skip
              rw [show (0 : Int32) = nI 0 from rfl, nI_eq b31 (by decide)] at c72
              rw [if_neg c72] at hx
              refine mh_aload_0 dX6_change_80 (q := 81) rfl ?_
              refine mh_getR fl_X6_49 dX6_change_81 (q := 84) rfl (shX6_0 hC.1) rfl ?_
              refine mh_iload_3 dX6_change_84 (q := 85) rfl ?_
              refine mh_callV1 ca_X6_change_85 (shX0_0 h0) (q := 88) rfl (by simp [Value.category]) ⟨Nat.zero_le _, Nat.zero_le _⟩ ?_
              refine sp_X0_ofFirstRow h0 h10 hu2 t2 (Nat.pos_of_ne_zero c72) (by omega) ?_
              refine mh_ireturn dX6_change_88 rfl rfl ?_
              exact hx
            · skip
              rw [show (0 : Int32) = nI 0 from rfl, nI_eq b31 (by decide)] at c72
              rw [if_pos c72] at hx
              refine mh_bipush (v := (-9)) dX6_change_75 (q := 77) rfl (by decide) ?_
              refine mh_goto dX6_change_77 (tgt := 88) rfl ?_
              refine mh_ireturn dX6_change_88 rfl rfl ?_
              exact hx
          · skip
            refine mh_if_ne dX6_change_55 (tgt := 61) (q := 58) rfl rfl (fun hh => False.elim (by revert hh; decide)) (fun _ => ?_)
            refine mh_bipush (v := (-3)) dX6_change_58 (q := 60) rfl (by decide) ?_
            refine mh_ireturn dX6_change_60 rfl rfl ?_
            exact hf j j2 hj hj2 rfl rfl hne ck (fun z => hno z) F1 I1 (frq _ a52)
        · skip
          refine mh_bipush (v := (-2)) dX6_change_41 (q := 43) rfl (by decide) ?_
          refine mh_ireturn dX6_change_43 rfl rfl ?_
          exact hb ⟨⟨j, hj, rfl⟩, ⟨j2, hj2, rfl⟩, ck⟩ c38
      · skip
        refine mh_if_ne dX6_change_31 (tgt := 36) (q := 34) rfl rfl (fun hh => False.elim (by revert hh; decide)) (fun _ => ?_)
        refine mh_iconst_m1 dX6_change_34 (q := 35) rfl ?_
        refine mh_ireturn dX6_change_35 rfl rfl ?_
        refine hn (fun z => ?_)
        first
        | exact hk z.1
        | exact hk2 z.2.1
        | exact ck z.2.2
