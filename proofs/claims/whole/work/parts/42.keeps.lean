/-! keeps: the class's call; the reference's blind one -/
theorem mhHC.f12 {S : List mhS} {F : mhF} {I : mhI} {P : mhP} {nh : Nat} {wd hg aH : Nat → Nat} {v : Int32} (H : mhHC S F I P nh wd hg aH) : mhHC S (mhUF F 0 12 v) I P nh wd hg aH := by
  refine ⟨H.1, H.2.1, (mhUF_nk (by decide)).trans H.2.2.1, fun j hj => ⟨(H.2.2.2 j hj).1, ?_⟩⟩
  obtain ⟨h1, h2, h3, h4, h5, h6, h7, h8, h9, h10, h11⟩ := (H.2.2.2 j hj).2
  exact ⟨h1, h2, (mhUF_ne (by omega)).trans h3, (mhUF_ne (by omega)).trans h4, (mhUF_ne (by omega)).trans h5, (mhUF_ne (by omega)).trans h6, h7, h8, h9, h10, h11⟩
theorem mhHR.f0 {S : List mhS} {F : mhF} {I : mhI} {nh : Nat} {wd hg : Nat → Nat} {v : Int32} (H : mhHR S F I nh wd hg) : mhHR S (mhUF F 21 0 v) I nh wd hg := ⟨H.1, H.2.1, (mhUF_nk (by decide)).trans H.2.2.1, H.2.2.2⟩
def allS (w h : Nat) (cl : Nat → Int32) (ii n : Nat) : Prop := ∀ x, x < n → vSd w h (cl (ii + x))
def likS (cl : Nat → Int32) (ii n : Nat) : Prop := ∃ x y, x < y ∧ y < n ∧ cl (ii + x) = cl (ii + y)
set_option maxHeartbeats 4000000 in
set_option maxRecDepth 100000 in
theorem lp_X6_areSides {l : Launch} {K : mhX} {kc ks : Nat} {Φ : mhQ} {S : List mhS} {F : mhF} {I : mhI} {J : mhJ} {P : mhP} {a b w h ii n : Nat} {cl : Nat → Int32} (hH : mhHs S F I a w h) (hb : mhKX3 S b) (hin : ii + n ≤ 60) (hcl : ∀ c, c < 60 → I (b + 1) (nI c) = cl c) (ht : allS w h cl ii n → Φ (some (.int 1)) S F I J P) (hf : ¬ allS w h cl ii n → Φ (some (.int 0)) S F I J P) : ∀ (m q : Nat), q + m = n → (∀ x, x < q → vSd w h (cl (ii + x))) → mhV l K mX6_areSides kc ks Φ 3 [some (.ref a), some (.ref b), some (.int (nI ii)), some (.int (nI n)), some (.int (nI (ii + q)))] [] S F I J P := by
  intro m
  induction m with
  | zero =>
    intro q hq hx
    obtain rfl : q = n := by omega
    refine mh_iload_4 dX6_areSides_3 (q := 5) rfl ?_
    refine mh_iload_2 dX6_areSides_5 (q := 6) rfl ?_
    refine mh_iload_3 dX6_areSides_6 (q := 7) rfl ?_
    refine mh_iadd dX6_areSides_7 (q := 8) rfl ?_
    rw [nI_add]
    refine mh_icmp_ge dX6_areSides_8 (tgt := 33) (q := 11) rfl rfl (fun _ => ?_) (fun hh => absurd (nI_le (Nat.le_refl _) (by omega)) hh)
    refine mh_iconst_1 dX6_areSides_33 (q := 34) rfl ?_
    refine mh_ireturn dX6_areSides_34 rfl rfl ?_
    exact ht hx
  | succ m ih =>
    intro q hq hx
    refine mh_iload_4 dX6_areSides_3 (q := 5) rfl ?_
    refine mh_iload_2 dX6_areSides_5 (q := 6) rfl ?_
    refine mh_iload_3 dX6_areSides_6 (q := 7) rfl ?_
    refine mh_iadd dX6_areSides_7 (q := 8) rfl ?_
    rw [nI_add]
    refine mh_icmp_ge dX6_areSides_8 (tgt := 33) (q := 11) rfl rfl (fun hh => absurd hh (nI_ge (by omega) (by omega))) (fun _ => ?_)
    refine mh_aload_0 dX6_areSides_11 (q := 12) rfl ?_
    refine mh_aload_1 dX6_areSides_12 (q := 13) rfl ?_
    refine mh_getR fl_X6_102 dX6_areSides_13 (q := 16) rfl (shX3_0 hb) rfl ?_
    refine mh_iload_4 dX6_areSides_16 (q := 18) rfl ?_
    refine mh_iald dX6_areSides_18 (q := 19) rfl (shX3_1 hb) (vp_in_nI (by omega) (by decide)) ?_
    rw [hcl _ (by omega)]
    refine mh_callV1 ca_X6_areSides_19 (shX1_0 hH.1) (q := 22) rfl (by simp [Value.category]) ⟨Nat.zero_le _, Nat.zero_le _⟩ ?_
    refine sp_X1_hasSide hH (fun r hr er => ?_) (fun hk => ?_)
    · skip
      refine mh_if_ne dX6_areSides_22 (tgt := 27) (q := 25) rfl rfl (fun _ => ?_) (fun hh => False.elim (by revert hh; decide))
      refine mh_iinc_4 (v := 1) dX6_areSides_27 (q := 30) rfl (by decide) ?_
      refine mh_goto dX6_areSides_30 (tgt := 3) rfl ?_
      rw [nI_1]
      exact ih (q + 1) (by omega) (fun x hx2 => by
        rcases Nat.lt_or_ge x q with u | u
        · exact hx x u
        · rw [show x = q by omega]; exact ⟨r, hr, er⟩)
    · skip
      refine mh_if_ne dX6_areSides_22 (tgt := 27) (q := 25) rfl rfl (fun hh => False.elim (by revert hh; decide)) (fun _ => ?_)
      refine mh_iconst_0 dX6_areSides_25 (q := 26) rfl ?_
      refine mh_ireturn dX6_areSides_26 rfl rfl ?_
      exact hf (fun z => hk (z q (by omega)))
set_option maxHeartbeats 4000000 in
set_option maxRecDepth 100000 in
theorem sp_X6_areSides {l : Launch} {K : mhX} {Φ : mhQ} {S : List mhS} {F : mhF} {I : mhI} {J : mhJ} {P : mhP} {a b w h ii n : Nat} {cl : Nat → Int32} (hH : mhHs S F I a w h) (hb : mhKX3 S b) (hin : ii + n ≤ 60) (hcl : ∀ c, c < 60 → I (b + 1) (nI c) = cl c) (ht : allS w h cl ii n → Φ (some (.int 1)) S F I J P) (hf : ¬ allS w h cl ii n → Φ (some (.int 0)) S F I J P) : mhOk l K mX6_areSides [.ref a, .ref b, .int (nI ii), .int (nI n)] S F I J P Φ := by
  refine mhOk.of (by decide) (by decide) rfl (Nat.le_of_ble_eq_true rfl) ?_
  refine mh_iload_2 dX6_areSides_0 (q := 1) rfl ?_
  refine mh_istore_4 dX6_areSides_1 (q := 3) rfl ?_
  exact lp_X6_areSides (kc := mX6_areSides.2.2.2.2.cells) (ks := mX6_areSides.2.2.2.2.slots) hH hb hin hcl ht hf n 0 (Nat.zero_add _) (fun x hx => absurd hx (Nat.not_lt_zero x))
set_option maxHeartbeats 4000000 in
set_option maxRecDepth 100000 in
theorem lp_X6_hasLikeB {l : Launch} {K : mhX} {kc ks : Nat} {Φ : mhQ} {S : List mhS} {F : mhF} {I : mhI} {J : mhJ} {P : mhP} {b ii n : Nat} {cl : Nat → Int32} (hb : mhKX3 S b) (hin : ii + n ≤ 60) (hcl : ∀ c, c < 60 → I (b + 1) (nI c) = cl c) (ht : likS cl ii n → Φ (some (.int 1)) S F I J P) {q : Nat} (hqn : q < n) (hΦ : (∀ y, q < y → y < n → ¬ cl (ii + q) = cl (ii + y)) → mhV l K mX6_hasLike kc ks Φ 46 [some (.ref b), some (.int (nI ii)), some (.int (nI n)), some (.int (nI (ii + q))), some (.int (nI (ii + n)))] [] S F I J P) : ∀ (m y : Nat), y + m = n → q < y → (∀ z, q < z → z < y → ¬ cl (ii + q) = cl (ii + z)) → mhV l K mX6_hasLike kc ks Φ 14 [some (.ref b), some (.int (nI ii)), some (.int (nI n)), some (.int (nI (ii + q))), some (.int (nI (ii + y)))] [] S F I J P := by
  intro m
  induction m with
  | zero =>
    intro y hy hqy hz
    obtain rfl : y = n := by omega
    refine mh_iload_4 dX6_hasLike_14 (q := 16) rfl ?_
    refine mh_iload_1 dX6_hasLike_16 (q := 17) rfl ?_
    refine mh_iload_2 dX6_hasLike_17 (q := 18) rfl ?_
    refine mh_iadd dX6_hasLike_18 (q := 19) rfl ?_
    rw [nI_add]
    refine mh_icmp_ge dX6_hasLike_19 (tgt := 46) (q := 22) rfl rfl (fun _ => ?_) (fun hh => absurd (nI_le (Nat.le_refl _) (by omega)) hh)
    exact hΦ hz
  | succ m ih =>
    intro y hy hqy hz
    refine mh_iload_4 dX6_hasLike_14 (q := 16) rfl ?_
    refine mh_iload_1 dX6_hasLike_16 (q := 17) rfl ?_
    refine mh_iload_2 dX6_hasLike_17 (q := 18) rfl ?_
    refine mh_iadd dX6_hasLike_18 (q := 19) rfl ?_
    rw [nI_add]
    refine mh_icmp_ge dX6_hasLike_19 (tgt := 46) (q := 22) rfl rfl (fun hh => absurd hh (nI_ge (by omega) (by omega))) (fun _ => ?_)
    refine mh_aload_0 dX6_hasLike_22 (q := 23) rfl ?_
    refine mh_getR fl_X6_102 dX6_hasLike_23 (q := 26) rfl (shX3_0 hb) rfl ?_
    refine mh_iload_3 dX6_hasLike_26 (q := 27) rfl ?_
    refine mh_iald dX6_hasLike_27 (q := 28) rfl (shX3_1 hb) (vp_in_nI (by omega) (by decide)) ?_
    rw [hcl _ (by omega)]
    refine mh_aload_0 dX6_hasLike_28 (q := 29) rfl ?_
    refine mh_getR fl_X6_102 dX6_hasLike_29 (q := 32) rfl (shX3_0 hb) rfl ?_
    refine mh_iload_4 dX6_hasLike_32 (q := 34) rfl ?_
    refine mh_iald dX6_hasLike_34 (q := 35) rfl (shX3_1 hb) (vp_in_nI (by omega) (by decide)) ?_
    rw [hcl _ (by omega)]
    refine mh_icmp_ne dX6_hasLike_35 (tgt := 40) (q := 38) rfl rfl (fun c35 => ?_) (fun c35 => ?_)
    · skip
      refine mh_iinc_4 (v := 1) dX6_hasLike_40 (q := 43) rfl (by decide) ?_
      refine mh_goto dX6_hasLike_43 (tgt := 14) rfl ?_
      rw [nI_1]
      exact ih (y + 1) (by omega) (by omega) (fun z h1 h2 => by
        rcases Nat.lt_or_ge z y with u | u
        · exact hz z h1 u
        · rw [show z = y by omega]; exact c35)
    · skip
      refine mh_iconst_1 dX6_hasLike_38 (q := 39) rfl ?_
      refine mh_ireturn dX6_hasLike_39 rfl rfl ?_
      exact ht ⟨q, y, hqy, by omega, c35⟩
set_option maxHeartbeats 4000000 in
set_option maxRecDepth 100000 in
theorem lp_X6_hasLike {l : Launch} {K : mhX} {kc ks : Nat} {Φ : mhQ} {S : List mhS} {F : mhF} {I : mhI} {J : mhJ} {P : mhP} {b ii n : Nat} {cl : Nat → Int32} (hb : mhKX3 S b) (hin : ii + n ≤ 60) (hcl : ∀ c, c < 60 → I (b + 1) (nI c) = cl c) (ht : likS cl ii n → Φ (some (.int 1)) S F I J P) (hf : ¬ likS cl ii n → Φ (some (.int 0)) S F I J P) : ∀ (m q : Nat) (o4 : Option Value), q + m = n → (∀ x y, x < q → x < y → y < n → ¬ cl (ii + x) = cl (ii + y)) → mhV l K mX6_hasLike kc ks Φ 2 [some (.ref b), some (.int (nI ii)), some (.int (nI n)), some (.int (nI (ii + q))), o4] [] S F I J P := by
  intro m
  induction m with
  | zero =>
    intro q o4 hq hx
    obtain rfl : q = n := by omega
    refine mh_iload_3 dX6_hasLike_2 (q := 3) rfl ?_
    refine mh_iload_1 dX6_hasLike_3 (q := 4) rfl ?_
    refine mh_iload_2 dX6_hasLike_4 (q := 5) rfl ?_
    refine mh_iadd dX6_hasLike_5 (q := 6) rfl ?_
    rw [nI_add]
    refine mh_icmp_ge dX6_hasLike_6 (tgt := 52) (q := 9) rfl rfl (fun _ => ?_) (fun hh => absurd (nI_le (Nat.le_refl _) (by omega)) hh)
    refine mh_iconst_0 dX6_hasLike_52 (q := 53) rfl ?_
    refine mh_ireturn dX6_hasLike_53 rfl rfl ?_
    exact hf (fun ⟨x, y, z1, z2, z3⟩ => hx x y (by omega) z1 z2 z3)
  | succ m ih =>
    intro q o4 hq hx
    refine mh_iload_3 dX6_hasLike_2 (q := 3) rfl ?_
    refine mh_iload_1 dX6_hasLike_3 (q := 4) rfl ?_
    refine mh_iload_2 dX6_hasLike_4 (q := 5) rfl ?_
    refine mh_iadd dX6_hasLike_5 (q := 6) rfl ?_
    rw [nI_add]
    refine mh_icmp_ge dX6_hasLike_6 (tgt := 52) (q := 9) rfl rfl (fun hh => absurd hh (nI_ge (by omega) (by omega))) (fun _ => ?_)
    refine mh_iload_3 dX6_hasLike_9 (q := 10) rfl ?_
    refine mh_iconst_1 dX6_hasLike_10 (q := 11) rfl ?_
    refine mh_iadd dX6_hasLike_11 (q := 12) rfl ?_
    rw [nI_1]
    refine mh_istore_4 dX6_hasLike_12 (q := 14) rfl ?_
    refine lp_X6_hasLikeB hb hin hcl ht (q := q) (by omega) (fun hz => ?_) (n - (q + 1)) (q + 1) (by omega) (by omega) (fun z h1 h2 => by omega)
    refine mh_iinc_3 (v := 1) dX6_hasLike_46 (q := 49) rfl (by decide) ?_
    refine mh_goto dX6_hasLike_49 (tgt := 2) rfl ?_
    rw [nI_1]
    exact ih (q + 1) _ (by omega) (fun x y z1 z2 z3 => by
      rcases Nat.lt_or_ge x q with u | u
      · exact hx x y u z2 z3
      · obtain rfl : x = q := by omega
        exact hz y z2 z3)
set_option maxHeartbeats 4000000 in
set_option maxRecDepth 100000 in
theorem sp_X6_hasLike {l : Launch} {K : mhX} {Φ : mhQ} {S : List mhS} {F : mhF} {I : mhI} {J : mhJ} {P : mhP} {b ii n : Nat} {cl : Nat → Int32} (hb : mhKX3 S b) (hin : ii + n ≤ 60) (hcl : ∀ c, c < 60 → I (b + 1) (nI c) = cl c) (ht : likS cl ii n → Φ (some (.int 1)) S F I J P) (hf : ¬ likS cl ii n → Φ (some (.int 0)) S F I J P) : mhOk l K mX6_hasLike [.ref b, .int (nI ii), .int (nI n)] S F I J P Φ := by
  refine mhOk.of (by decide) (by decide) rfl (Nat.le_of_ble_eq_true rfl) ?_
  refine mh_iload_1 dX6_hasLike_0 (q := 1) rfl ?_
  refine mh_istore_3 dX6_hasLike_1 (q := 2) rfl ?_
  exact lp_X6_hasLike (kc := mX6_hasLike.2.2.2.2.cells) (ks := mX6_hasLike.2.2.2.2.slots) hb hin hcl ht hf n 0 _ (Nat.zero_add _) (fun x y z => absurd z (Nat.not_lt_zero x))
theorem mh_n8 {n : Int32} (h : 1 ≤ n ∧ n ≤ 8) : ∃ k, 1 ≤ k ∧ k ≤ 8 ∧ n = nI k := by
  obtain ⟨k, hk, e⟩ := mh_of2 (n := 8) (M := 8) rfl (by grind) h.2
  refine ⟨k, ?_, by omega, e⟩
  rw [e, show (1 : Int32) = nI 1 from rfl, nI_leI (by decide) (by omega)] at h
  exact h.1
set_option maxHeartbeats 4000000 in
set_option maxRecDepth 100000 in
theorem sp_X6_keeps {l : Launch} {K : mhX} {Φ : mhQ} {S : List mhS} {F : mhF} {I : mhI} {J : mhJ} {P : mhP} (h6 : mhKX6 S) (hP : mhSh S F P) {nh : Nat} {wd hg aH : Nat → Nat} (hC : mhHC S F I P nh wd hg aH) {kd : Nat → Nat → Int32} (hK : ∀ j, j < nh → mhPn I (aH j) (wd j) (hg j) (kd j)) {cl : Nat → Nat → Int32} (hcl : ∀ j, j < 4 → ¬ F (13 + 2 * j) 1 = -9 → ∀ c, c < 60 → I (13 + 2 * j + 1) (nI c) = cl j c) {x y way k so i n what : Int32} (hn : ¬ (mhSc k ∧ vHR nh wd hg x y) → Φ (some (.int (-1))) S (mhUF F 0 12 0) I J P) (hb : (mhSc k ∧ vHR nh wd hg x y) → ¬ (mhSo so ∧ mhSo way ∧ (0 ≤ what ∧ what ≤ 1)) → Φ (some (.int (-2))) S (mhUF F 0 12 0) I J P) (hf : ∀ js, js < 4 → k = nI js → (mhSc k ∧ vHR nh wd hg x y) → (mhSo so ∧ mhSo way ∧ (0 ≤ what ∧ what ≤ 1)) → ¬ (mhAg (F (13 + 2 * js) 1) (F (13 + 2 * js) 2) so i n) = 0 → Φ (some (.int (-10 - (mhAg (F (13 + 2 * js) 1) (F (13 + 2 * js) 2) so i n)))) S (mhUF F 0 12 (mhAg (F (13 + 2 * js) 1) (F (13 + 2 * js) 2) so i n)) I J P) (hz : ∀ js, js < 4 → k = nI js → (mhSc k ∧ vHR nh wd hg x y) → (mhSo so ∧ mhSo way ∧ (0 ≤ what ∧ what ≤ 1)) → (mhAg (F (13 + 2 * js) 1) (F (13 + 2 * js) 2) so i n) = 0 → ¬ (1 ≤ n ∧ n ≤ 8) → Φ (some (.int (-2))) S (mhUF F 0 12 0) I J P) (hs : ∀ j r js ii nn, j < nh → js < 4 → r < gRooms (wd j) (hg j) → x = nI j → y = nI r → k = nI js → (mhSo so ∧ mhSo way ∧ (0 ≤ what ∧ what ≤ 1)) → (mhAg (F (13 + 2 * js) 1) (F (13 + 2 * js) 2) so i n) = 0 → i = nI ii → n = nI nn → 1 ≤ nn → nn ≤ 8 → ¬ allS (wd j) (hg j) (cl js) ii nn → Φ (some (.int (-1))) S (mhUF F 0 12 0) I J P) (hl : ∀ j r js ii nn, j < nh → js < 4 → r < gRooms (wd j) (hg j) → x = nI j → y = nI r → k = nI js → (mhSo so ∧ mhSo way ∧ (0 ≤ what ∧ what ≤ 1)) → (mhAg (F (13 + 2 * js) 1) (F (13 + 2 * js) 2) so i n) = 0 → i = nI ii → n = nI nn → 1 ≤ nn → nn ≤ 8 → allS (wd j) (hg j) (cl js) ii nn → likS (cl js) ii nn → Φ (some (.int (-2))) S (mhUF F 0 12 0) I J P) (ht : ∀ j r js ii nn c, j < nh → js < 4 → r < gRooms (wd j) (hg j) → x = nI j → y = nI r → k = nI js → (mhSo so ∧ mhSo way ∧ (0 ≤ what ∧ what ≤ 1)) → (mhAg (F (13 + 2 * js) 1) (F (13 + 2 * js) 2) so i n) = 0 → i = nI ii → n = nI nn → 1 ≤ nn → nn ≤ 8 → allS (wd j) (hg j) (cl js) ii nn → ¬ likS (cl js) ii nn → way = nI c → c < 3 → ∀ (F2 : mhF) (I2 : mhI), frH (aH j) (mhUF F 0 12 0) I F2 I2 → Φ (some (.int (if what = 0 then (kpF (wd j) (hg j) (kd j) (fun x => (cl js (ii + x)).toNatClampNeg) nn r c (2 ^ nn)).1 else (kpF (wd j) (hg j) (kd j) (fun x => (cl js (ii + x)).toNatClampNeg) nn r c (2 ^ nn)).2))) S F2 I2 J P) : mhOk l K mX6_keeps [.ref 0, .int x, .int y, .int way, .int k, .int so, .int i, .int n, .int what] S F I J P Φ := by
  refine mhOk.of (by decide) (by decide) rfl (Nat.le_of_ble_eq_true rfl) ?_
  refine mh_aload_0 dX6_keeps_0 (q := 1) rfl ?_
  refine mh_iconst_0 dX6_keeps_1 (q := 2) rfl ?_
  refine mh_putI (Or.inl fw_X6_65) rfl rfl dX6_keeps_2 (q := 5) rfl (shX6_0 h6) rfl ?_
  replace hC := hC.f12 (v := 0)
  refine mh_aload_0 dX6_keeps_5 (q := 6) rfl ?_
  refine mh_iload_4 dX6_keeps_6 (q := 8) rfl ?_
  refine mh_callV1 ca_X6_keeps_8 (shX6_0 h6) (q := 11) rfl (by simp [Value.category]) ⟨Nat.zero_le _, Nat.zero_le _⟩ ?_
  refine sp_X6_sheetAt h6 hP (fun hks => ?_) (fun js hjs ejs hks => ?_)
  · skip
    refine mh_astoreN_9 dX6_keeps_11 (q := 13) rfl ?_
    refine mh_aload_0 dX6_keeps_13 (q := 14) rfl ?_
    refine mh_iload_1 dX6_keeps_14 (q := 15) rfl ?_
    refine mh_callV1 ca_X6_keeps_15 (shX6_0 h6) (q := 18) rfl (by simp [Value.category]) ⟨Nat.zero_le _, Nat.zero_le _⟩ ?_
    refine sp_X6_houseAt hC (fun hk => ?_) (fun j hj ej => ?_)
    · skip
      refine mh_astoreN_10 dX6_keeps_18 (q := 20) rfl ?_
      refine mh_aloadN_9 dX6_keeps_20 (q := 22) rfl ?_
      refine mh_ifnullN dX6_keeps_22 (tgt := 39) rfl ?_
      refine mh_iconst_m1 dX6_keeps_39 (q := 40) rfl ?_
      refine mh_ireturn dX6_keeps_40 rfl rfl ?_
      refine hn (fun z => ?_)
      first
      | exact hks z.1
      | exact hk z.2
      | (obtain ⟨z1, i2, hi2, e, e1⟩ := z
         first
         | exact hk ⟨i2, hi2, e⟩
         | (have e4 : j = i2 := (nI_eq (by have := hC.2.1; omega) (by have := hC.2.1; omega)).mp e
            subst e4
            exact hk e1))
    · skip
      subst ej
      refine mh_astore_10 dX6_keeps_18 (q := 20) rfl ?_
      refine mh_aloadN_9 dX6_keeps_20 (q := 22) rfl ?_
      refine mh_ifnullN dX6_keeps_22 (tgt := 39) rfl ?_
      refine mh_iconst_m1 dX6_keeps_39 (q := 40) rfl ?_
      refine mh_ireturn dX6_keeps_40 rfl rfl ?_
      refine hn (fun z => ?_)
      first
      | exact hks z.1
      | exact hk z.2
      | (obtain ⟨z1, i2, hi2, e, e1⟩ := z
         first
         | exact hk ⟨i2, hi2, e⟩
         | (have e4 : j = i2 := (nI_eq (by have := hC.2.1; omega) (by have := hC.2.1; omega)).mp e
            subst e4
            exact hk e1))
  · skip
    subst ejs
    refine mh_astore_9 dX6_keeps_11 (q := 13) rfl ?_
    refine mh_aload_0 dX6_keeps_13 (q := 14) rfl ?_
    refine mh_iload_1 dX6_keeps_14 (q := 15) rfl ?_
    refine mh_callV1 ca_X6_keeps_15 (shX6_0 h6) (q := 18) rfl (by simp [Value.category]) ⟨Nat.zero_le _, Nat.zero_le _⟩ ?_
    refine sp_X6_houseAt hC (fun hk => ?_) (fun j hj ej => ?_)
    · skip
      refine mh_astoreN_10 dX6_keeps_18 (q := 20) rfl ?_
      refine mh_aload_9 dX6_keeps_20 (q := 22) rfl ?_
      refine mh_ifnullR dX6_keeps_22 (q := 25) rfl ?_
      refine mh_aloadN_10 dX6_keeps_25 (q := 27) rfl ?_
      refine mh_ifnullN dX6_keeps_27 (tgt := 39) rfl ?_
      refine mh_iconst_m1 dX6_keeps_39 (q := 40) rfl ?_
      refine mh_ireturn dX6_keeps_40 rfl rfl ?_
      refine hn (fun z => ?_)
      first
      | exact hks z.1
      | exact hk z.2
      | (obtain ⟨z1, i2, hi2, e, e1⟩ := z
         first
         | exact hk ⟨i2, hi2, e⟩
         | (have e4 : j = i2 := (nI_eq (by have := hC.2.1; omega) (by have := hC.2.1; omega)).mp e
            subst e4
            exact hk e1))
    · skip
      subst ej
      refine mh_astore_10 dX6_keeps_18 (q := 20) rfl ?_
      refine mh_aload_9 dX6_keeps_20 (q := 22) rfl ?_
      refine mh_ifnullR dX6_keeps_22 (q := 25) rfl ?_
      refine mh_aload_10 dX6_keeps_25 (q := 27) rfl ?_
      refine mh_ifnullR dX6_keeps_27 (q := 30) rfl ?_
      refine mh_aload_10 dX6_keeps_30 (q := 32) rfl ?_
      refine mh_iload_2 dX6_keeps_32 (q := 33) rfl ?_
      refine mh_callV1 ca_X6_keeps_33 (shX1_0 (hC.2.2.2 j hj).2.1) (q := 36) rfl (by simp [Value.category]) ⟨Nat.zero_le _, Nat.zero_le _⟩ ?_
      refine sp_X1_hasRoom (hC.2.2.2 j hj).2 (fun r hr er => ?_) (fun hk => ?_)
      · skip
        subst er
        refine mh_if_ne dX6_keeps_36 (tgt := 41) (q := 39) rfl rfl (fun _ => ?_) (fun hh => False.elim (by revert hh; decide))
        refine mh_iload_5 dX6_keeps_41 (q := 43) rfl ?_
        refine mh_callS1 ca_X6_keeps_43 (q := 46) rfl (by simp [Value.category]) ⟨Nat.zero_le _, Nat.zero_le _⟩ ?_
        refine sp_X6_isSort (fun cs => ?_) (fun cs => ?_)
        · skip
          refine mh_if_eq dX6_keeps_46 (tgt := 66) (q := 49) rfl rfl (fun hh => False.elim (by revert hh; decide)) (fun _ => ?_)
          refine mh_iload_3 dX6_keeps_49 (q := 50) rfl ?_
          refine mh_callS1 ca_X6_keeps_50 (q := 53) rfl (by simp [Value.category]) ⟨Nat.zero_le _, Nat.zero_le _⟩ ?_
          refine sp_X6_isWay (fun cw => ?_) (fun cw => ?_)
          · skip
            refine mh_if_eq dX6_keeps_53 (tgt := 66) (q := 56) rfl rfl (fun hh => False.elim (by revert hh; decide)) (fun _ => ?_)
            refine mh_iload_8 dX6_keeps_56 (q := 58) rfl ?_
            refine mh_iconst_0 dX6_keeps_58 (q := 59) rfl ?_
            refine mh_iconst_1 dX6_keeps_59 (q := 60) rfl ?_
            refine mh_callS3 ca_X6_keeps_60 (q := 63) rfl (by simp [Value.category]) ⟨Nat.zero_le _, Nat.zero_le _⟩ ?_
            refine sp_X6_within (fun ca => ?_) (fun ca => ?_)
            · skip
              refine mh_if_ne dX6_keeps_63 (tgt := 69) (q := 66) rfl rfl (fun _ => ?_) (fun hh => False.elim (by revert hh; decide))
              refine mh_aload_9 dX6_keeps_69 (q := 71) rfl ?_
              refine mh_iload_5 dX6_keeps_71 (q := 73) rfl ?_
              refine mh_iload_6 dX6_keeps_73 (q := 75) rfl ?_
              refine mh_iload_7 dX6_keeps_75 (q := 77) rfl ?_
              refine mh_callV3 ca_X6_keeps_77 (shX3_0 (hP js hjs).2.1) (q := 80) rfl (by simp [Value.category]) ⟨Nat.zero_le _, Nat.zero_le _⟩ ?_
              refine sp_X3_faultOfRow (hP js hjs).2.1 ?_
              rw [show mhUF F 0 12 0 (13 + 2 * js) 1 = F (13 + 2 * js) 1 from mhUF_ne (by omega)]
              rw [show mhUF F 0 12 0 (13 + 2 * js) 2 = F (13 + 2 * js) 2 from mhUF_ne (by omega)]
              refine mh_istore_11 dX6_keeps_80 (q := 82) rfl ?_
              refine mh_iload_11 dX6_keeps_82 (q := 84) rfl ?_
              refine mh_if_eq dX6_keeps_84 (tgt := 94) (q := 87) rfl rfl (fun c84 => ?_) (fun c84 => ?_)
              · skip
                refine mh_iload_7 dX6_keeps_94 (q := 96) rfl ?_
                refine mh_iconst_1 dX6_keeps_96 (q := 97) rfl ?_
                refine mh_bipush (v := 8) dX6_keeps_97 (q := 99) rfl (by decide) ?_
                refine mh_callS3 ca_X6_keeps_99 (q := 102) rfl (by simp [Value.category]) ⟨Nat.zero_le _, Nat.zero_le _⟩ ?_
                refine sp_X6_within (fun cn => ?_) (fun cn => ?_)
                · skip
                  refine mh_if_ne dX6_keeps_102 (tgt := 108) (q := 105) rfl rfl (fun _ => ?_) (fun hh => False.elim (by revert hh; decide))
                  refine mh_aload_10 dX6_keeps_108 (q := 110) rfl ?_
                  refine mh_aload_9 dX6_keeps_110 (q := 112) rfl ?_
                  refine mh_iload_6 dX6_keeps_112 (q := 114) rfl ?_
                  refine mh_iload_7 dX6_keeps_114 (q := 116) rfl ?_
                  refine mh_callS4 ca_X6_keeps_116 (q := 119) rfl (by simp [Value.category]) ⟨Nat.zero_le _, Nat.zero_le _⟩ ?_
                  obtain ⟨hs9, ii, nn0, hin, rfl, rfl⟩ := mhAg_0 c84 (hP js hjs).2.2.1 (hP js hjs).2.2.2
                  obtain ⟨nn, hn1, hn8, en⟩ := mh_n8 cn
                  have enn : nn0 = nn := (nI_eq (by omega) (by omega)).mp en
                  subst enn
                  refine sp_X6_areSides (hC.2.2.2 j hj).2 (hP js hjs).2.1 hin (hcl js hjs hs9) (fun cS => ?_) (fun cS => ?_)
                  · skip
                    refine mh_if_ne dX6_keeps_119 (tgt := 124) (q := 122) rfl rfl (fun _ => ?_) (fun hh => False.elim (by revert hh; decide))
                    refine mh_aload_9 dX6_keeps_124 (q := 126) rfl ?_
                    refine mh_iload_6 dX6_keeps_126 (q := 128) rfl ?_
                    refine mh_iload_7 dX6_keeps_128 (q := 130) rfl ?_
                    refine mh_callS3 ca_X6_keeps_130 (q := 133) rfl (by simp [Value.category]) ⟨Nat.zero_le _, Nat.zero_le _⟩ ?_
                    refine sp_X6_hasLike (hP js hjs).2.1 hin (hcl js hjs hs9) (fun cL => ?_) (fun cL => ?_)
                    · skip
                      refine mh_if_eq dX6_keeps_133 (tgt := 139) (q := 136) rfl rfl (fun hh => False.elim (by revert hh; decide)) (fun _ => ?_)
                      refine mh_bipush (v := (-2)) dX6_keeps_136 (q := 138) rfl (by decide) ?_
                      refine mh_ireturn dX6_keeps_138 rfl rfl ?_
                      exact hl j r js ii nn0 hj hjs hr rfl rfl rfl ⟨cs, cw, ca⟩ c84 rfl rfl hn1 hn8 cS cL
                    · skip
                      refine mh_if_eq dX6_keeps_133 (tgt := 139) (q := 136) rfl rfl (fun _ => ?_) (fun hh => False.elim (by revert hh; decide))
                      refine mh_aload_10 dX6_keeps_139 (q := 141) rfl ?_
                      refine mh_aload_9 dX6_keeps_141 (q := 143) rfl ?_
                      refine mh_iload_6 dX6_keeps_143 (q := 145) rfl ?_
                      refine mh_iload_7 dX6_keeps_145 (q := 147) rfl ?_
                      refine mh_iload_2 dX6_keeps_147 (q := 148) rfl ?_
                      refine mh_iload_3 dX6_keeps_148 (q := 149) rfl ?_
                      refine mh_callV5 ca_X6_keeps_149 (shX1_0 (hC.2.2.2 j hj).2.1) (q := 152) rfl (by simp [Value.category]) ⟨Nat.zero_le _, Nat.zero_le _⟩ ?_
                      obtain ⟨c, hc, rfl⟩ := mh_way cw
                      refine sp_X1_keepLongest (hC.2.2.2 j hj).2 (hK j hj) (hP js hjs).2.1 (by have := (hC.2.2.2 j hj).2.2.2.2.2.2.2.2.2.2.2; omega) hr hc hn8 hin (hcl js hjs hs9) cS (fun F2 I2 q1 q2 q3 => ?_)
                      refine mh_iload_8 dX6_keeps_152 (q := 154) rfl ?_
                      refine mh_if_ne dX6_keeps_154 (tgt := 165) (q := 157) rfl rfl (fun cz => ?_) (fun cz => ?_)
                      · skip
                        refine mh_aload_10 dX6_keeps_165 (q := 167) rfl ?_
                        refine mh_getI fl_X6_316 dX6_keeps_167 (q := 170) rfl (shX1_0 (hC.2.2.2 j hj).2.1) rfl ?_
                        rw [q2]
                        refine mh_ireturn dX6_keeps_170 rfl rfl ?_
                        have hx := ht j r js ii nn0 c hj hjs hr rfl rfl rfl ⟨cs, cw, ca⟩ c84 rfl rfl hn1 hn8 cS cL rfl hc F2 I2 q3
                        rw [if_neg cz] at hx
                        exact hx
                      · skip
                        refine mh_aload_10 dX6_keeps_157 (q := 159) rfl ?_
                        refine mh_getI fl_X6_313 dX6_keeps_159 (q := 162) rfl (shX1_0 (hC.2.2.2 j hj).2.1) rfl ?_
                        rw [q1]
                        refine mh_goto dX6_keeps_162 (tgt := 170) rfl ?_
                        refine mh_ireturn dX6_keeps_170 rfl rfl ?_
                        have hx := ht j r js ii nn0 c hj hjs hr rfl rfl rfl ⟨cs, cw, ca⟩ c84 rfl rfl hn1 hn8 cS cL rfl hc F2 I2 q3
                        rw [if_pos cz] at hx
                        exact hx
                  · skip
                    refine mh_if_ne dX6_keeps_119 (tgt := 124) (q := 122) rfl rfl (fun hh => False.elim (by revert hh; decide)) (fun _ => ?_)
                    refine mh_iconst_m1 dX6_keeps_122 (q := 123) rfl ?_
                    refine mh_ireturn dX6_keeps_123 rfl rfl ?_
                    exact hs j r js ii nn0 hj hjs hr rfl rfl rfl ⟨cs, cw, ca⟩ c84 rfl rfl hn1 hn8 cS
                · skip
                  refine mh_if_ne dX6_keeps_102 (tgt := 108) (q := 105) rfl rfl (fun hh => False.elim (by revert hh; decide)) (fun _ => ?_)
                  refine mh_bipush (v := (-2)) dX6_keeps_105 (q := 107) rfl (by decide) ?_
                  refine mh_ireturn dX6_keeps_107 rfl rfl ?_
                  exact hz js hjs rfl ⟨hks, j, hj, rfl, r, hr, rfl⟩ ⟨cs, cw, ca⟩ c84 cn
              · skip
                refine mh_aload_0 dX6_keeps_87 (q := 88) rfl ?_
                refine mh_iload_11 dX6_keeps_88 (q := 90) rfl ?_
                refine mh_callV1 ca_X6_keeps_90 (shX6_0 h6) (q := 93) rfl (by simp [Value.category]) ⟨Nat.zero_le _, Nat.zero_le _⟩ ?_
                refine sp_X6_faulted h6 ?_
                rw [mhUF_uu]
                refine mh_ireturn dX6_keeps_93 rfl rfl ?_
                exact hf js hjs rfl ⟨hks, j, hj, rfl, r, hr, rfl⟩ ⟨cs, cw, ca⟩ c84
            · skip
              refine mh_if_ne dX6_keeps_63 (tgt := 69) (q := 66) rfl rfl (fun hh => False.elim (by revert hh; decide)) (fun _ => ?_)
              refine mh_bipush (v := (-2)) dX6_keeps_66 (q := 68) rfl (by decide) ?_
              refine mh_ireturn dX6_keeps_68 rfl rfl ?_
              exact hb ⟨hks, j, hj, rfl, r, hr, rfl⟩ (fun e => by first | exact cs e.1 | exact cw e.2.1 | exact ca e.2.2)
          · skip
            refine mh_if_eq dX6_keeps_53 (tgt := 66) (q := 56) rfl rfl (fun _ => ?_) (fun hh => False.elim (by revert hh; decide))
            refine mh_bipush (v := (-2)) dX6_keeps_66 (q := 68) rfl (by decide) ?_
            refine mh_ireturn dX6_keeps_68 rfl rfl ?_
            exact hb ⟨hks, j, hj, rfl, r, hr, rfl⟩ (fun e => by first | exact cs e.1 | exact cw e.2.1 | exact ca e.2.2)
        · skip
          refine mh_if_eq dX6_keeps_46 (tgt := 66) (q := 49) rfl rfl (fun _ => ?_) (fun hh => False.elim (by revert hh; decide))
          refine mh_bipush (v := (-2)) dX6_keeps_66 (q := 68) rfl (by decide) ?_
          refine mh_ireturn dX6_keeps_68 rfl rfl ?_
          exact hb ⟨hks, j, hj, rfl, r, hr, rfl⟩ (fun e => by first | exact cs e.1 | exact cw e.2.1 | exact ca e.2.2)
      · skip
        refine mh_if_ne dX6_keeps_36 (tgt := 41) (q := 39) rfl rfl (fun hh => False.elim (by revert hh; decide)) (fun _ => ?_)
        refine mh_iconst_m1 dX6_keeps_39 (q := 40) rfl ?_
        refine mh_ireturn dX6_keeps_40 rfl rfl ?_
        refine hn (fun z => ?_)
        first
        | exact hks z.1
        | exact hk z.2
        | (obtain ⟨z1, i2, hi2, e, e1⟩ := z
           first
           | exact hk ⟨i2, hi2, e⟩
           | (have e4 : j = i2 := (nI_eq (by have := hC.2.1; omega) (by have := hC.2.1; omega)).mp e
              subst e4
              exact hk e1))
set_option maxHeartbeats 4000000 in
set_option maxRecDepth 100000 in
theorem sp_X7_has {l : Launch} {K : mhX} {Φ : mhQ} {S : List mhS} {F : mhF} {I : mhI} {J : mhJ} {P : mhP} {s : Int32} {q : Nat} (ht : (s >>> (nI q &&& 31)) &&& 1 = 1 → Φ (some (.int 1)) S F I J P) (hf : ¬ (s >>> (nI q &&& 31)) &&& 1 = 1 → Φ (some (.int 0)) S F I J P) : mhOk l K mX7_has [.int s, .int (nI q)] S F I J P Φ := by
  refine mhOk.of (by decide) (by decide) rfl (Nat.le_of_ble_eq_true rfl) ?_
  refine mh_iload_0 dX7_has_0 (q := 1) rfl ?_
  refine mh_iload_1 dX7_has_1 (q := 2) rfl ?_
  refine mh_ishr dX7_has_2 (q := 3) rfl ?_
  refine mh_iconst_1 dX7_has_3 (q := 4) rfl ?_
  refine mh_iand dX7_has_4 (q := 5) rfl ?_
  refine mh_iconst_1 dX7_has_5 (q := 6) rfl ?_
  refine mh_icmp_ne dX7_has_6 (tgt := 13) (q := 9) rfl rfl (fun c6 => ?_) (fun c6 => ?_)
  · skip
    refine mh_iconst_0 dX7_has_13 (q := 14) rfl ?_
    refine mh_ireturn dX7_has_14 rfl rfl ?_
    exact hf c6
  · skip
    refine mh_iconst_1 dX7_has_9 (q := 10) rfl ?_
    refine mh_goto dX7_has_10 (tgt := 14) rfl ?_
    refine mh_ireturn dX7_has_14 rfl rfl ?_
    exact ht c6
set_option maxHeartbeats 4000000 in
set_option maxRecDepth 100000 in
theorem sp_X7_hand {l : Launch} {K : mhX} {Φ : mhQ} {S : List mhS} {F : mhF} {I : mhI} {J : mhJ} {P : mhP} {r c q : Nat} (hr : r < 2 ^ 31) (hc : c < 3) (hq : q < 3) (hΦ : Φ (some (.int (nI (hnd r c q)))) S F I J P) : mhOk l K mX7_hand [.int (nI r), .int (nI c), .int (nI q)] S F I J P Φ := by
  refine mhOk.of (by decide) (by decide) rfl (Nat.le_of_ble_eq_true rfl) ?_
  have e12 : nI c + 1 = nI (c + 1) := nI_1 _
  have e22 : nI c + 2 = nI (c + 2) := nI_add _ 2
  rcases (show q = 2 ∨ q = 1 ∨ q = 0 by omega) with rfl | rfl | rfl
  · skip
    refine mh_iload_2 dX7_hand_0 (q := 1) rfl ?_
    refine mh_iconst_2 dX7_hand_1 (q := 2) rfl ?_
    refine mh_icmp_ne dX7_hand_2 (tgt := 7) (q := 5) rfl rfl (fun hh => False.elim (by revert hh; decide)) (fun _ => ?_)
    refine mh_iload_1 dX7_hand_5 (q := 6) rfl ?_
    refine mh_ireturn dX7_hand_6 rfl rfl ?_
    have e : hnd r c 2 = c := by unfold hnd; split <;> omega
    rw [e] at hΦ
    exact hΦ
  · skip
    refine mh_iload_2 dX7_hand_0 (q := 1) rfl ?_
    refine mh_iconst_2 dX7_hand_1 (q := 2) rfl ?_
    refine mh_icmp_ne dX7_hand_2 (tgt := 7) (q := 5) rfl rfl (fun _ => ?_) (fun hh => False.elim (by revert hh; decide))
    refine mh_iload_0 dX7_hand_7 (q := 8) rfl ?_
    refine mh_iconst_2 dX7_hand_8 (q := 9) rfl ?_
    refine mh_irem dX7_hand_9 (q := 10) rfl (by decide) ?_
    refine mh_if_ne dX7_hand_10 (tgt := 17) (q := 13) rfl rfl (fun c10 => ?_) (fun c10 => ?_)
    · skip
      rw [mh_ev0 r hr] at c10
      refine mh_iconst_0 dX7_hand_17 (q := 18) rfl ?_
      refine mh_iload_2 dX7_hand_18 (q := 19) rfl ?_
      refine mh_if_ne dX7_hand_19 (tgt := 26) (q := 22) rfl rfl (fun _ => ?_) (fun hh => False.elim (by revert hh; decide))
      refine mh_iconst_0 dX7_hand_26 (q := 27) rfl ?_
      refine mh_icmp_ne dX7_hand_27 (tgt := 34) (q := 30) rfl rfl (fun hh => False.elim (by revert hh; decide)) (fun _ => ?_)
      refine mh_iconst_1 dX7_hand_30 (q := 31) rfl ?_
      refine mh_goto dX7_hand_31 (tgt := 35) rfl ?_
      refine mh_istore_3 dX7_hand_35 (q := 36) rfl ?_
      refine mh_iload_1 dX7_hand_36 (q := 37) rfl ?_
      refine mh_iload_3 dX7_hand_37 (q := 38) rfl ?_
      refine mh_if_eq dX7_hand_38 (tgt := 45) (q := 41) rfl rfl (fun hh => False.elim (by revert hh; decide)) (fun _ => ?_)
      refine mh_iconst_1 dX7_hand_41 (q := 42) rfl ?_
      refine mh_goto dX7_hand_42 (tgt := 46) rfl ?_
      refine mh_iadd dX7_hand_46 (q := 47) rfl ?_
      first | rw [e12] | rw [e22]
      refine mh_iconst_3 dX7_hand_47 (q := 48) rfl ?_
      refine mh_irem dX7_hand_48 (q := 49) rfl (by decide) ?_
      rw [mh_m3 (by omega)]
      refine mh_ireturn dX7_hand_49 rfl rfl ?_
      have e : hnd r c 1 = (c + 1) % 3 := by unfold hnd; rw [if_neg c10]; try omega
      rw [e] at hΦ
      exact hΦ
    · skip
      rw [mh_ev0 r hr] at c10
      refine mh_iconst_1 dX7_hand_13 (q := 14) rfl ?_
      refine mh_goto dX7_hand_14 (tgt := 18) rfl ?_
      refine mh_iload_2 dX7_hand_18 (q := 19) rfl ?_
      refine mh_if_ne dX7_hand_19 (tgt := 26) (q := 22) rfl rfl (fun _ => ?_) (fun hh => False.elim (by revert hh; decide))
      refine mh_iconst_0 dX7_hand_26 (q := 27) rfl ?_
      refine mh_icmp_ne dX7_hand_27 (tgt := 34) (q := 30) rfl rfl (fun _ => ?_) (fun hh => False.elim (by revert hh; decide))
      refine mh_iconst_0 dX7_hand_34 (q := 35) rfl ?_
      refine mh_istore_3 dX7_hand_35 (q := 36) rfl ?_
      refine mh_iload_1 dX7_hand_36 (q := 37) rfl ?_
      refine mh_iload_3 dX7_hand_37 (q := 38) rfl ?_
      refine mh_if_eq dX7_hand_38 (tgt := 45) (q := 41) rfl rfl (fun _ => ?_) (fun hh => False.elim (by revert hh; decide))
      refine mh_iconst_2 dX7_hand_45 (q := 46) rfl ?_
      refine mh_iadd dX7_hand_46 (q := 47) rfl ?_
      first | rw [e12] | rw [e22]
      refine mh_iconst_3 dX7_hand_47 (q := 48) rfl ?_
      refine mh_irem dX7_hand_48 (q := 49) rfl (by decide) ?_
      rw [mh_m3 (by omega)]
      refine mh_ireturn dX7_hand_49 rfl rfl ?_
      have e : hnd r c 1 = (c + 2) % 3 := by unfold hnd; rw [if_pos c10]; try omega
      rw [e] at hΦ
      exact hΦ
  · skip
    refine mh_iload_2 dX7_hand_0 (q := 1) rfl ?_
    refine mh_iconst_2 dX7_hand_1 (q := 2) rfl ?_
    refine mh_icmp_ne dX7_hand_2 (tgt := 7) (q := 5) rfl rfl (fun _ => ?_) (fun hh => False.elim (by revert hh; decide))
    refine mh_iload_0 dX7_hand_7 (q := 8) rfl ?_
    refine mh_iconst_2 dX7_hand_8 (q := 9) rfl ?_
    refine mh_irem dX7_hand_9 (q := 10) rfl (by decide) ?_
    refine mh_if_ne dX7_hand_10 (tgt := 17) (q := 13) rfl rfl (fun c10 => ?_) (fun c10 => ?_)
    · skip
      rw [mh_ev0 r hr] at c10
      refine mh_iconst_0 dX7_hand_17 (q := 18) rfl ?_
      refine mh_iload_2 dX7_hand_18 (q := 19) rfl ?_
      refine mh_if_ne dX7_hand_19 (tgt := 26) (q := 22) rfl rfl (fun hh => False.elim (by revert hh; decide)) (fun _ => ?_)
      refine mh_iconst_1 dX7_hand_22 (q := 23) rfl ?_
      refine mh_goto dX7_hand_23 (tgt := 27) rfl ?_
      refine mh_icmp_ne dX7_hand_27 (tgt := 34) (q := 30) rfl rfl (fun _ => ?_) (fun hh => False.elim (by revert hh; decide))
      refine mh_iconst_0 dX7_hand_34 (q := 35) rfl ?_
      refine mh_istore_3 dX7_hand_35 (q := 36) rfl ?_
      refine mh_iload_1 dX7_hand_36 (q := 37) rfl ?_
      refine mh_iload_3 dX7_hand_37 (q := 38) rfl ?_
      refine mh_if_eq dX7_hand_38 (tgt := 45) (q := 41) rfl rfl (fun _ => ?_) (fun hh => False.elim (by revert hh; decide))
      refine mh_iconst_2 dX7_hand_45 (q := 46) rfl ?_
      refine mh_iadd dX7_hand_46 (q := 47) rfl ?_
      first | rw [e12] | rw [e22]
      refine mh_iconst_3 dX7_hand_47 (q := 48) rfl ?_
      refine mh_irem dX7_hand_48 (q := 49) rfl (by decide) ?_
      rw [mh_m3 (by omega)]
      refine mh_ireturn dX7_hand_49 rfl rfl ?_
      have e : hnd r c 0 = (c + 2) % 3 := by unfold hnd; rw [if_neg c10]; try omega
      rw [e] at hΦ
      exact hΦ
    · skip
      rw [mh_ev0 r hr] at c10
      refine mh_iconst_1 dX7_hand_13 (q := 14) rfl ?_
      refine mh_goto dX7_hand_14 (tgt := 18) rfl ?_
      refine mh_iload_2 dX7_hand_18 (q := 19) rfl ?_
      refine mh_if_ne dX7_hand_19 (tgt := 26) (q := 22) rfl rfl (fun hh => False.elim (by revert hh; decide)) (fun _ => ?_)
      refine mh_iconst_1 dX7_hand_22 (q := 23) rfl ?_
      refine mh_goto dX7_hand_23 (tgt := 27) rfl ?_
      refine mh_icmp_ne dX7_hand_27 (tgt := 34) (q := 30) rfl rfl (fun hh => False.elim (by revert hh; decide)) (fun _ => ?_)
      refine mh_iconst_1 dX7_hand_30 (q := 31) rfl ?_
      refine mh_goto dX7_hand_31 (tgt := 35) rfl ?_
      refine mh_istore_3 dX7_hand_35 (q := 36) rfl ?_
      refine mh_iload_1 dX7_hand_36 (q := 37) rfl ?_
      refine mh_iload_3 dX7_hand_37 (q := 38) rfl ?_
      refine mh_if_eq dX7_hand_38 (tgt := 45) (q := 41) rfl rfl (fun hh => False.elim (by revert hh; decide)) (fun _ => ?_)
      refine mh_iconst_1 dX7_hand_41 (q := 42) rfl ?_
      refine mh_goto dX7_hand_42 (tgt := 46) rfl ?_
      refine mh_iadd dX7_hand_46 (q := 47) rfl ?_
      first | rw [e12] | rw [e22]
      refine mh_iconst_3 dX7_hand_47 (q := 48) rfl ?_
      refine mh_irem dX7_hand_48 (q := 49) rfl (by decide) ?_
      rw [mh_m3 (by omega)]
      refine mh_ireturn dX7_hand_49 rfl rfl ?_
      have e : hnd r c 0 = (c + 1) % 3 := by unfold hnd; rw [if_pos c10]; try omega
      rw [e] at hΦ
      exact hΦ
set_option maxHeartbeats 4000000 in
set_option maxRecDepth 100000 in
theorem lp_X7_blindK {l : Launch} {K : mhX} {kc ks : Nat} {Φ : mhQ} {S : List mhS} {F : mhF} {I : mhI} {J : mhJ} {P : mhP} (h7 : mhKX7 S) {j w h r c t : Nat} {kd : Nat → Int32} (hm : mhHm I j w h) (hk : mhKn I j w h kd) (hr : r < gRooms w h) (hc : c < 3) {o2 o3 : Option Value} (hΦ : ∀ o9, mhV l K mX7_blindTicks kc ks Φ 73 [some (.ref 21), some (.int (nI j)), o2, o3, some (.int (nI r)), some (.int (nI c)), some (.int (nI t)), some (.int (onN (foG w h kd r c 3))), some (.int (-1)), o9] [] S F I J P) : ∀ (m : Nat) (o9 : Option Value), m ≤ 3 → mhV l K mX7_blindTicks kc ks Φ 24 [some (.ref 21), some (.int (nI j)), o2, o3, some (.int (nI r)), some (.int (nI c)), some (.int (nI t)), some (.int (onN (foG w h kd r c (3 - m)))), some (.int (nI m - 1)), o9] [] S F I J P := by
  have hbd := gBd hm.2.1
  have hj := hm.1
  intro m
  induction m with
  | zero =>
    intro o9 hi
    refine mh_iload_8 dX7_blindTicks_24 (q := 26) rfl ?_
    refine mh_if_lt dX7_blindTicks_26 (tgt := 73) (q := 29) rfl rfl (fun _ => ?_) (fun hh => absurd (show nI 0 - 1 < (0 : Int32) by decide) hh)
    exact hΦ o9
  | succ m ih =>
    intro o9 hi
    have em : nI (m + 1) - 1 = nI m := by rw [← nI_1]; grind
    rw [em]
    have t1 := (gT1 hm.2.1 hr (hnd_lt (r := r) (c := c) (k := m))).2.1
    have es : foG w h kd r c (3 - m) = if kd (gSide w h r (hnd r c m)) = 2 then some (hnd r c m) else foG w h kd r c (3 - (m + 1)) := by rw [show 3 - m = (3 - (m + 1)) + 1 by omega]; show (if kd (gSide w h r (hnd r c (2 - (3 - (m + 1))))) = 2 then some (hnd r c (2 - (3 - (m + 1)))) else _) = _; rw [show 2 - (3 - (m + 1)) = m by omega]
    have h9 := fun o9 => ih o9 (by omega)
    rw [es] at h9
    refine mh_iload_8 dX7_blindTicks_24 (q := 26) rfl ?_
    refine mh_if_lt dX7_blindTicks_26 (tgt := 73) (q := 29) rfl rfl (fun hh => absurd hh (nI_pos (by omega))) (fun _ => ?_)
    refine mh_iload_4 dX7_blindTicks_29 (q := 31) rfl ?_
    refine mh_iload_5 dX7_blindTicks_31 (q := 33) rfl ?_
    refine mh_iload_8 dX7_blindTicks_33 (q := 35) rfl ?_
    refine mh_callS3 ca_X7_blindTicks_35 (q := 38) rfl (by simp [Value.category]) ⟨Nat.zero_le _, Nat.zero_le _⟩ ?_
    refine sp_X7_hand (by omega) hc (by omega) ?_
    refine mh_istore_9 dX7_blindTicks_38 (q := 40) rfl ?_
    refine mh_aload_0 dX7_blindTicks_40 (q := 41) rfl ?_
    refine mh_getR fl_X7_25 dX7_blindTicks_41 (q := 44) rfl (shX7_0 h7) rfl ?_
    refine mh_bipush (v := 50) dX7_blindTicks_44 (q := 46) rfl (by decide) ?_
    refine mh_iload_1 dX7_blindTicks_46 (q := 47) rfl ?_
    refine mh_imul dX7_blindTicks_47 (q := 48) rfl ?_
    refine mh_aload_0 dX7_blindTicks_48 (q := 49) rfl ?_
    refine mh_iload_1 dX7_blindTicks_49 (q := 50) rfl ?_
    refine mh_iload_4 dX7_blindTicks_50 (q := 52) rfl ?_
    refine mh_iload_9 dX7_blindTicks_52 (q := 54) rfl ?_
    refine mh_callV3 ca_X7_blindTicks_54 (shX7_0 h7) (q := 57) rfl (by simp [Value.category]) ⟨Nat.zero_le _, Nat.zero_le _⟩ ?_
    refine sp_X7_sideOf h7 hm hr hnd_lt ?_
    refine mh_iadd dX7_blindTicks_57 (q := 58) rfl ?_
    refine mh_iald dX7_blindTicks_58 (q := 59) rfl (shX7_6 h7) (by rw [mh_e50]; exact vp_in_nI (by omega) (by decide)) ?_
    rw [mh_e50, hk _ t1]
    refine mh_iconst_2 dX7_blindTicks_59 (q := 60) rfl ?_
    refine mh_icmp_ne dX7_blindTicks_60 (tgt := 67) (q := 63) rfl rfl (fun c60 => ?_) (fun c60 => ?_)
    · skip
      refine mh_iinc_8 (v := (-1)) dX7_blindTicks_67 (q := 70) rfl (by decide) ?_
      refine mh_goto dX7_blindTicks_70 (tgt := 24) rfl ?_
      rw [show nI m + -1 = nI m - 1 from by grind]
      rw [if_neg c60] at h9
      exact h9 _
    · skip
      refine mh_iload_9 dX7_blindTicks_63 (q := 65) rfl ?_
      refine mh_istore_7 dX7_blindTicks_65 (q := 67) rfl ?_
      refine mh_iinc_8 (v := (-1)) dX7_blindTicks_67 (q := 70) rfl (by decide) ?_
      refine mh_goto dX7_blindTicks_70 (tgt := 24) rfl ?_
      rw [show nI m + -1 = nI m - 1 from by grind]
      rw [if_pos c60] at h9
      exact h9 _
set_option maxHeartbeats 4000000 in
set_option maxRecDepth 100000 in
theorem lp_X7_blindTicks {l : Launch} {K : mhX} {kc ks : Nat} {Φ : mhQ} {S : List mhS} {F : mhF} {I : mhI} {J : mhJ} {P : mhP} (h7 : mhKX7 S) {j w h : Nat} {kd : Nat → Int32} (hm : mhHm I j w h) (hk : mhKn I j w h kd) {o2 o3 : Option Value} : ∀ (m t r c : Nat) (o7 o8 o9 : Option Value), t + m = 201 → r < gRooms w h → c < 3 → Φ (some (.int (blT w h kd m t r c))) S F I J P → mhV l K mX7_blindTicks kc ks Φ 9 [some (.ref 21), some (.int (nI j)), o2, o3, some (.int (nI r)), some (.int (nI c)), some (.int (nI t)), o7, o8, o9] [] S F I J P := by
  have hbd := gBd hm.2.1
  intro m
  induction m with
  | zero =>
    intro t r c o7 o8 o9 ht hr hc hΦ
    obtain rfl : t = 201 := by omega
    refine mh_iload_6 dX7_blindTicks_9 (q := 11) rfl ?_
    refine mh_sipush (v := 200) dX7_blindTicks_11 (q := 14) rfl (by decide) ?_
    refine mh_icmp_gt dX7_blindTicks_14 (tgt := 114) (q := 17) rfl rfl (fun _ => ?_) (fun hh => absurd (show (200 : Int32) < nI 201 by decide) hh)
    refine mh_bipush (v := (-9)) dX7_blindTicks_114 (q := 116) rfl (by decide) ?_
    refine mh_ireturn dX7_blindTicks_116 rfl rfl ?_
    exact hΦ
  | succ m ih =>
    intro t r c o7 o8 o9 ht hr hc hΦ
    unfold blT at hΦ
    refine mh_iload_6 dX7_blindTicks_9 (q := 11) rfl ?_
    refine mh_sipush (v := 200) dX7_blindTicks_11 (q := 14) rfl (by decide) ?_
    refine mh_icmp_gt dX7_blindTicks_14 (tgt := 114) (q := 17) rfl rfl (fun hh => absurd hh (show ¬ (200 : Int32) < nI t from Int32.not_lt.mpr ((nI_leI (b := 200) (by omega) (by decide)).mpr (by omega)))) (fun _ => ?_)
    refine mh_bipush (v := (-9)) dX7_blindTicks_17 (q := 19) rfl (by decide) ?_
    refine mh_istore_7 dX7_blindTicks_19 (q := 21) rfl ?_
    refine mh_iconst_2 dX7_blindTicks_21 (q := 22) rfl ?_
    refine mh_istore_8 dX7_blindTicks_22 (q := 24) rfl ?_
    refine lp_X7_blindK h7 hm hk hr hc (fun o9 => ?_) 3 _ (Nat.le_refl 3)
    rcases hfo : foG w h kd r c 3 with _ | d
    · rw [hfo] at hΦ
      dsimp only [onN] at hΦ ⊢
      refine mh_iload_7 dX7_blindTicks_73 (q := 75) rfl ?_
      refine mh_bipush (v := (-9)) dX7_blindTicks_75 (q := 77) rfl (by decide) ?_
      refine mh_icmp_ne dX7_blindTicks_77 (tgt := 83) (q := 80) rfl rfl (fun hh => False.elim (by revert hh; decide)) (fun _ => ?_)
      refine mh_bipush (v := (-9)) dX7_blindTicks_80 (q := 82) rfl (by decide) ?_
      refine mh_ireturn dX7_blindTicks_82 rfl rfl ?_
      exact hΦ
    · have hd := (foG_lt hfo).1
      rw [hfo] at hΦ
      dsimp only [onN] at hΦ ⊢
      refine mh_iload_7 dX7_blindTicks_73 (q := 75) rfl ?_
      refine mh_bipush (v := (-9)) dX7_blindTicks_75 (q := 77) rfl (by decide) ?_
      refine mh_icmp_ne dX7_blindTicks_77 (tgt := 83) (q := 80) rfl rfl (fun _ => ?_) (fun hh => absurd hh (mh_n9 (by omega)))
      refine mh_aload_0 dX7_blindTicks_83 (q := 84) rfl ?_
      refine mh_iload_1 dX7_blindTicks_84 (q := 85) rfl ?_
      refine mh_iload_4 dX7_blindTicks_85 (q := 87) rfl ?_
      refine mh_iload_7 dX7_blindTicks_87 (q := 89) rfl ?_
      refine mh_callV3 ca_X7_blindTicks_89 (shX7_0 h7) (q := 92) rfl (by simp [Value.category]) ⟨Nat.zero_le _, Nat.zero_le _⟩ ?_
      refine sp_X7_behind h7 hm hr hd ?_
      refine mh_istore_4 dX7_blindTicks_92 (q := 94) rfl ?_
      refine mh_iload_7 dX7_blindTicks_94 (q := 96) rfl ?_
      refine mh_istore_5 dX7_blindTicks_96 (q := 98) rfl ?_
      refine mh_iload_4 dX7_blindTicks_98 (q := 100) rfl ?_
      refine mh_bipush (v := (-9)) dX7_blindTicks_100 (q := 102) rfl (by decide) ?_
      refine mh_icmp_ne dX7_blindTicks_102 (tgt := 108) (q := 105) rfl rfl (fun c102 => ?_) (fun c102 => ?_)
      · skip
        refine mh_iinc_6 (v := 1) dX7_blindTicks_108 (q := 111) rfl (by decide) ?_
        refine mh_goto dX7_blindTicks_111 (tgt := 9) rfl ?_
        rw [nI_1]
        rw [if_neg c102] at hΦ
        have gn := gB_nat hm.2.1 hr hd c102
        have e := fun o7 o8 o9 => ih (t + 1) (gB w h r d).toNatClampNeg d o7 o8 o9 (by omega) gn.1 hd hΦ
        rw [← gn.2] at e
        exact e _ _ _
      · skip
        refine mh_iload_6 dX7_blindTicks_105 (q := 107) rfl ?_
        refine mh_ireturn dX7_blindTicks_107 rfl rfl ?_
        rw [if_pos c102] at hΦ
        exact hΦ
set_option maxHeartbeats 4000000 in
set_option maxRecDepth 100000 in
theorem sp_X7_blindTicks {l : Launch} {K : mhX} {Φ : mhQ} {S : List mhS} {F : mhF} {I : mhI} {J : mhJ} {P : mhP} (h7 : mhKX7 S) {j w h r c : Nat} {kd : Nat → Int32} (hm : mhHm I j w h) (hk : mhKn I j w h kd) (hr : r < gRooms w h) (hc : c < 3) (hΦ : Φ (some (.int (blT w h kd 200 1 r c))) S F I J P) : mhOk l K mX7_blindTicks [.ref 21, .int (nI j), .int (nI r), .int (nI c)] S F I J P Φ := by
  refine mhOk.of (by decide) (by decide) rfl (Nat.le_of_ble_eq_true rfl) ?_
  refine mh_iload_2 dX7_blindTicks_0 (q := 1) rfl ?_
  refine mh_istore_4 dX7_blindTicks_1 (q := 3) rfl ?_
  refine mh_iload_3 dX7_blindTicks_3 (q := 4) rfl ?_
  refine mh_istore_5 dX7_blindTicks_4 (q := 6) rfl ?_
  refine mh_iconst_1 dX7_blindTicks_6 (q := 7) rfl ?_
  refine mh_istore_6 dX7_blindTicks_7 (q := 9) rfl ?_
  exact lp_X7_blindTicks (kc := mX7_blindTicks.2.2.2.2.cells) (ks := mX7_blindTicks.2.2.2.2.slots) h7 hm hk 200 1 r c _ _ _ rfl hr hc hΦ
