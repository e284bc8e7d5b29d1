/-! ways out: the class's sets of rooms -/
/-- what a house's own trials may change -/
def frH (a : Nat) (F : mhF) (I : mhI) (F' : mhF) (I' : mhI) : Prop := (∀ b k, ¬ (b = a ∧ 9 ≤ k ∧ k < 13) → F' b k = F b k) ∧ ∀ b y, ¬ (a + 7 ≤ b ∧ b ≤ a + 9) → I' b y = I b y
theorem frH.rf {a : Nat} {F : mhF} {I : mhI} : frH a F I F I := ⟨fun _ _ _ => rfl, fun _ _ _ => rfl⟩
theorem frH.tr {a : Nat} {F F1 F2 : mhF} {I I1 I2 : mhI} (h : frH a F I F1 I1) (h2 : frH a F1 I1 F2 I2) : frH a F I F2 I2 := ⟨fun b k e => (h2.1 b k e).trans (h.1 b k e), fun b y e => (h2.2 b y e).trans (h.2 b y e)⟩
theorem mhHs.frh {S : List mhS} {F F' : mhF} {I I' : mhI} {a w h : Nat} (hf : frH a F I F' I') (H : mhHs S F I a w h) : mhHs S F' I' a w h := by
  obtain ⟨h1, h2, h3, h4, h5, h6, h7, h8, h9, h10, h11⟩ := H
  exact ⟨h1, h2, (hf.1 _ _ (by omega)).trans h3, (hf.1 _ _ (by omega)).trans h4, (hf.1 _ _ (by omega)).trans h5, (hf.1 _ _ (by omega)).trans h6, fun b hb j => (hf.2 _ j (by omega)).trans (h7 b hb j), (hf.2 _ _ (by omega)).trans h8, (hf.2 _ _ (by omega)).trans h9, (hf.2 _ _ (by omega)).trans h10, h11⟩
theorem mhPn.frh {F F' : mhF} {I I' : mhI} {a w h : Nat} {kd : Nat → Int32} (hf : frH a F I F' I') (H : mhPn I a w h kd) : mhPn I' a w h kd := fun k hk => (hf.2 _ _ (by omega)).trans (H k hk)
theorem mv_congr {f f' : Nat → Bool} {s : Int} {r : Nat} (h : ∀ i, i < 32 → f i = f' i) : mv f s r = mv f' s r := by
  unfold mv
  by_cases c : 0 ≤ (r : Int) - s ∧ (r : Int) - s < 32
  · rw [h _ (by omega)]
  · rw [decide_eq_false c]; rfl
theorem neg_nI : ∀ k ∈ List.range 33, (-nI k).toInt = -(k : Int) := by decide +kernel
theorem gTo_bd {w e : Nat} (h1 : 1 ≤ w) (h2 : w < 5) : -32 < gTo w e ∧ gTo w e < 32 := by unfold gTo; split <;> (try split) <;> omega
theorem gTo_i {S : List mhS} {F : mhF} {I : mhI} {a w h e : Nat} (H : mhHs S F I a w h) (he : e < 3) : (I (a + 10) (nI e)).toInt = gTo w e := by
  obtain ⟨h1, h2, h3, h4, h5, h6, h7, h8, h9, h10, h11⟩ := H
  rcases (show e = 0 ∨ e = 1 ∨ e = 2 by omega) with rfl | rfl | rfl
  · rw [show nI 0 = (0 : Int32) from rfl, h8]
    have key : ∀ w ∈ [1, 2, 3, 4], ((1 : Int32) - 2 * nI w).toInt = gTo w 0 := by decide +kernel
    exact key w (gWl h2.1 h2.2.1)
  · rw [show nI 1 = (1 : Int32) from rfl, h9]; rfl
  · rw [show nI 2 = (2 : Int32) from rfl, h10]; rfl
set_option maxHeartbeats 4000000 in
set_option maxRecDepth 100000 in
theorem sp_X1_moved {l : Launch} {K : mhX} {Φ : mhQ} {S : List mhS} {F : mhF} {I : mhI} {J : mhJ} {P : mhP} {x y : Int32} {s : Int} (hs : y.toInt = s) (h1 : -32 < s) (h2 : s < 32) (hΦ : ∀ z, (∀ r, r < 32 → bt z r = mv (bt x) s r) → Φ (some (.int z)) S F I J P) : mhOk l K mX1_moved [.int x, .int y] S F I J P Φ := by
  refine mhOk.of (by decide) (by decide) rfl (Nat.le_of_ble_eq_true rfl) ?_
  refine mh_iload_1 dX1_moved_0 (q := 1) rfl ?_
  refine mh_if_lt dX1_moved_1 (tgt := 10) (q := 4) rfl rfl (fun c1 => ?_) (fun c1 => ?_)
  · skip
    obtain ⟨k, hk⟩ : ∃ k : Nat, (k : Int) = -s := ⟨(-s).toNat, by have := Int32.lt_iff_toInt_lt.mp c1; rw [hs, show (0 : Int32).toInt = 0 from rfl] at this; omega⟩
    have e1 : y = -nI k := Int32.toInt_inj.mp (by rw [hs, neg_nI k (List.mem_range.mpr (by omega))]; omega)
    subst e1
    refine mh_iload_0 dX1_moved_10 (q := 11) rfl ?_
    refine mh_iload_1 dX1_moved_11 (q := 12) rfl ?_
    refine mh_ineg dX1_moved_12 (q := 13) rfl ?_
    rw [show -(-nI k) = nI k from by grind]
    refine mh_iushr dX1_moved_13 (q := 14) rfl ?_
    refine mh_ireturn dX1_moved_14 rfl rfl ?_
    refine hΦ _ (fun r hr => ?_)
    rw [bt_ushr (by omega)]
    unfold mv
    by_cases c : k + r < 32
    · rw [show ((r : Int) - s).toNat = k + r by omega, decide_eq_true (show 0 ≤ (r : Int) - s ∧ (r : Int) - s < 32 by omega)]
      rfl
    · rw [bt_big (by omega), decide_eq_false (show ¬ (0 ≤ (r : Int) - s ∧ (r : Int) - s < 32) by omega)]
      rfl
  · skip
    obtain ⟨k, hk⟩ : ∃ k : Nat, (k : Int) = s := ⟨s.toNat, by have := Int32.not_lt.mp c1; rw [Int32.le_iff_toInt_le, hs, show (0 : Int32).toInt = 0 from rfl] at this; omega⟩
    have e1 : y = nI k := Int32.toInt_inj.mp (by rw [hs, nI_toInt (by omega)]; omega)
    subst e1
    refine mh_iload_0 dX1_moved_4 (q := 5) rfl ?_
    refine mh_iload_1 dX1_moved_5 (q := 6) rfl ?_
    refine mh_ishl dX1_moved_6 (q := 7) rfl ?_
    refine mh_goto dX1_moved_7 (tgt := 14) rfl ?_
    refine mh_ireturn dX1_moved_14 rfl rfl ?_
    refine hΦ _ (fun r hr => ?_)
    rw [bt_shl (by omega)]
    unfold mv
    by_cases c : r < k
    · rw [decide_eq_true c, decide_eq_false (show ¬ (0 ≤ (r : Int) - s ∧ (r : Int) - s < 32) by omega)]
      simp
    · rw [decide_eq_false c, decide_eq_true hr, decide_eq_true (show 0 ≤ (r : Int) - s ∧ (r : Int) - s < 32 by omega), show ((r : Int) - s).toNat = r - k by omega]
      simp
set_option maxHeartbeats 4000000 in
set_option maxRecDepth 100000 in
theorem sp_X1_openAlso {l : Launch} {K : mhX} {Φ : mhQ} {S : List mhS} {F : mhF} {I : mhI} {J : mhJ} {P : mhP} {a w h : Nat} (hH : mhHs S F I a w h) {k : Nat} (hk : k < gSides w h) (hΦ : Φ none S F (mhUI I (a + 8) (nI (gSl w h k)) (I (a + 8) (nI (gSl w h k)) ||| (1 <<< (nI (gRo w h k) &&& 31)))) J P) : mhOk l K mX1_openAlso [.ref a, .int (nI k)] S F I J P Φ := by
  refine mhOk.of (by decide) (by decide) rfl (Nat.le_of_ble_eq_true rfl) ?_
  have hbd := gBd hH.2.1
  have t := gE1 hH.2.1 hk
  unfold gE1P at t
  obtain ⟨t1, t2, t3, t4, -⟩ := t
  refine mh_aload_0 dX1_openAlso_0 (q := 1) rfl ?_
  refine mh_getR fl_X1_21 dX1_openAlso_1 (q := 4) rfl (shX1_0 hH.1) rfl ?_
  refine mh_iload_1 dX1_openAlso_4 (q := 5) rfl ?_
  refine mh_iald dX1_openAlso_5 (q := 6) rfl (shX1_4 hH.1) (vp_in_nI (by omega) (by decide)) ?_
  rw [show I (a + 4) (nI k) = mhTab w h 1 (nI k) from hH.2.2.2.2.2.2.1 1 (by decide) _]
  refine mh_bipush (v := (-9)) dX1_openAlso_6 (q := 8) rfl (by decide) ?_
  refine mh_icmp_ne dX1_openAlso_8 (tgt := 31) (q := 11) rfl rfl (fun c8 => ?_) (fun c8 => ?_)
  · skip
    rw [if_neg c8] at t1
    refine mh_aload_0 dX1_openAlso_31 (q := 32) rfl ?_
    refine mh_getR fl_X1_24 dX1_openAlso_32 (q := 35) rfl (shX1_0 hH.1) rfl ?_
    refine mh_iload_1 dX1_openAlso_35 (q := 36) rfl ?_
    refine mh_iald dX1_openAlso_36 (q := 37) rfl (shX1_5 hH.1) (vp_in_nI (by omega) (by decide)) ?_
    rw [show I (a + 5) (nI k) = mhTab w h 2 (nI k) from hH.2.2.2.2.2.2.1 2 (by decide) _]
    refine mh_bipush (v := (-9)) dX1_openAlso_37 (q := 39) rfl (by decide) ?_
    refine mh_icmp_ne dX1_openAlso_39 (tgt := 62) (q := 42) rfl rfl (fun c39 => ?_) (fun c39 => ?_)
    · skip
      refine mh_aload_0 dX1_openAlso_62 (q := 63) rfl ?_
      refine mh_getR fl_X1_46 dX1_openAlso_63 (q := 66) rfl (shX1_0 hH.1) rfl ?_
      refine mh_aload_0 dX1_openAlso_66 (q := 67) rfl ?_
      refine mh_getR fl_X1_18 dX1_openAlso_67 (q := 70) rfl (shX1_0 hH.1) rfl ?_
      refine mh_iload_1 dX1_openAlso_70 (q := 71) rfl ?_
      refine mh_iald dX1_openAlso_71 (q := 72) rfl (shX1_3 hH.1) (vp_in_nI (by omega) (by decide)) ?_
      rw [show I (a + 3) (nI k) = mhTab w h 0 (nI k) from hH.2.2.2.2.2.2.1 0 (by decide) _]
      rw [t4 c8 c39]
      refine mh_dup2ir dX1_openAlso_72 (q := 73) rfl ?_
      refine mh_iald dX1_openAlso_73 (q := 74) rfl (shX1_8 hH.1) (vp_in_nI (by omega) (by decide)) ?_
      refine mh_iconst_1 dX1_openAlso_74 (q := 75) rfl ?_
      refine mh_aload_0 dX1_openAlso_75 (q := 76) rfl ?_
      refine mh_getR fl_X1_21 dX1_openAlso_76 (q := 79) rfl (shX1_0 hH.1) rfl ?_
      refine mh_iload_1 dX1_openAlso_79 (q := 80) rfl ?_
      refine mh_iald dX1_openAlso_80 (q := 81) rfl (shX1_4 hH.1) (vp_in_nI (by omega) (by decide)) ?_
      rw [show I (a + 4) (nI k) = mhTab w h 1 (nI k) from hH.2.2.2.2.2.2.1 1 (by decide) _]
      rw [t1]
      refine mh_ishl dX1_openAlso_81 (q := 82) rfl ?_
      refine mh_ior dX1_openAlso_82 (q := 83) rfl ?_
      refine mh_iast dX1_openAlso_83 (q := 84) rfl (shX1_8 hH.1) (by decide) (vp_in_nI (by omega) (by decide)) ?_
      refine mh_return dX1_openAlso_84 rfl ?_
      exact hΦ
    · skip
      refine mh_aload_0 dX1_openAlso_42 (q := 43) rfl ?_
      refine mh_getR fl_X1_46 dX1_openAlso_43 (q := 46) rfl (shX1_0 hH.1) rfl ?_
      refine mh_iconst_3 dX1_openAlso_46 (q := 47) rfl ?_
      refine mh_dup2ir dX1_openAlso_47 (q := 48) rfl ?_
      refine mh_iald dX1_openAlso_48 (q := 49) rfl (shX1_8 hH.1) (vp_in_nI (n := 3) (by decide) (by decide)) ?_
      refine mh_iconst_1 dX1_openAlso_49 (q := 50) rfl ?_
      refine mh_aload_0 dX1_openAlso_50 (q := 51) rfl ?_
      refine mh_getR fl_X1_21 dX1_openAlso_51 (q := 54) rfl (shX1_0 hH.1) rfl ?_
      refine mh_iload_1 dX1_openAlso_54 (q := 55) rfl ?_
      refine mh_iald dX1_openAlso_55 (q := 56) rfl (shX1_4 hH.1) (vp_in_nI (by omega) (by decide)) ?_
      rw [show I (a + 4) (nI k) = mhTab w h 1 (nI k) from hH.2.2.2.2.2.2.1 1 (by decide) _]
      rw [t1]
      refine mh_ishl dX1_openAlso_56 (q := 57) rfl ?_
      refine mh_ior dX1_openAlso_57 (q := 58) rfl ?_
      refine mh_iast dX1_openAlso_58 (q := 59) rfl (shX1_8 hH.1) (by decide) (vp_in_nI (n := 3) (by decide) (by decide)) ?_
      refine mh_goto dX1_openAlso_59 (tgt := 84) rfl ?_
      refine mh_return dX1_openAlso_84 rfl ?_
      have es : gSl w h k = 3 := if_pos (Or.inr c39)
      rw [es] at hΦ
      exact hΦ
  · skip
    rw [if_pos c8] at t1
    refine mh_aload_0 dX1_openAlso_11 (q := 12) rfl ?_
    refine mh_getR fl_X1_46 dX1_openAlso_12 (q := 15) rfl (shX1_0 hH.1) rfl ?_
    refine mh_iconst_3 dX1_openAlso_15 (q := 16) rfl ?_
    refine mh_dup2ir dX1_openAlso_16 (q := 17) rfl ?_
    refine mh_iald dX1_openAlso_17 (q := 18) rfl (shX1_8 hH.1) (vp_in_nI (n := 3) (by decide) (by decide)) ?_
    refine mh_iconst_1 dX1_openAlso_18 (q := 19) rfl ?_
    refine mh_aload_0 dX1_openAlso_19 (q := 20) rfl ?_
    refine mh_getR fl_X1_24 dX1_openAlso_20 (q := 23) rfl (shX1_0 hH.1) rfl ?_
    refine mh_iload_1 dX1_openAlso_23 (q := 24) rfl ?_
    refine mh_iald dX1_openAlso_24 (q := 25) rfl (shX1_5 hH.1) (vp_in_nI (by omega) (by decide)) ?_
    rw [show I (a + 5) (nI k) = mhTab w h 2 (nI k) from hH.2.2.2.2.2.2.1 2 (by decide) _]
    rw [t1]
    refine mh_ishl dX1_openAlso_25 (q := 26) rfl ?_
    refine mh_ior dX1_openAlso_26 (q := 27) rfl ?_
    refine mh_iast dX1_openAlso_27 (q := 28) rfl (shX1_8 hH.1) (by decide) (vp_in_nI (n := 3) (by decide) (by decide)) ?_
    refine mh_goto dX1_openAlso_28 (tgt := 84) rfl ?_
    refine mh_return dX1_openAlso_84 rfl ?_
    have es : gSl w h k = 3 := if_pos (Or.inl c8)
    rw [es] at hΦ
    exact hΦ
theorem opN_add {w h : Nat} {I : mhI} {b : Nat} {kd : Nat → Int32} (g : gOk w h) (ho : opN w h (fun s => I b (nI s)) kd) {k : Nat} (hk : k < gSides w h) : opN w h (fun s => mhUI I b (nI (gSl w h k)) (I b (nI (gSl w h k)) ||| (1 <<< (nI (gRo w h k) &&& 31))) b (nI s)) (fun x => if x = k then 2 else kd x) := by
  intro s r hs hr
  have t := gE1 g hk
  unfold gE1P at t
  have hb := gBd g
  have h0 := ho s r hs hr
  dsimp only at h0 ⊢
  rw [mhUI_at (by omega) (by omega)]
  by_cases e : s = gSl w h k
  · rw [if_pos ⟨rfl, e⟩, ← e, bt_or, bt_bit (by omega) hr]
    simp only [Bool.or_eq_true, decide_eq_true_eq]
    rw [h0]
    constructor
    · rintro (⟨x, z1, z2, z3, z4⟩ | z)
      · exact ⟨x, z1, by split; rfl; exact z2, z3, z4⟩
      · exact ⟨k, hk, if_pos rfl, e.symm, z.symm⟩
    · rintro ⟨x, z1, z2, z3, z4⟩
      by_cases c : x = k
      · subst c; exact Or.inr z4.symm
      · rw [if_neg c] at z2; exact Or.inl ⟨x, z1, z2, z3, z4⟩
  · rw [if_neg (fun z => e z.2), h0]
    constructor
    · rintro ⟨x, z1, z2, z3, z4⟩
      exact ⟨x, z1, by split; rfl; exact z2, z3, z4⟩
    · rintro ⟨x, z1, z2, z3, z4⟩
      by_cases c : x = k
      · subst c; exact absurd z3.symm e
      · rw [if_neg c] at z2; exact ⟨x, z1, z2, z3, z4⟩
theorem opN_congr {w h : Nat} {op op' kd kd' : Nat → Int32} (ho : opN w h op kd) (h1 : ∀ s, s < 4 → op' s = op s) (h2 : ∀ k, k < gSides w h → (kd k = 2 ↔ kd' k = 2)) : opN w h op' kd' := by
  intro s r hs hr
  rw [h1 s hs, ho s r hs hr]
  constructor
  · rintro ⟨x, z1, z2, z3⟩; exact ⟨x, z1, (h2 x z1).mp z2, z3⟩
  · rintro ⟨x, z1, z2, z3⟩; exact ⟨x, z1, (h2 x z1).mpr z2, z3⟩
set_option maxHeartbeats 4000000 in
set_option maxRecDepth 100000 in
theorem lp_X1_openBy {l : Launch} {K : mhX} {kc ks : Nat} {Φ : mhQ} {S : List mhS} {J : mhJ} {P : mhP} {F : mhF} {I0 : mhI} {a b w h : Nat} {kd : Nat → Int32} (hS : S[b]? = some (.inl (0, 43))) (hb8 : b ≠ a + 8) (hkd : ∀ k, k < gSides w h → I0 b (nI k) = kd k) (hΦ : ∀ I2 : mhI, opN w h (fun s => I2 (a + 8) (nI s)) kd → (∀ c y, c ≠ a + 8 → I2 c y = I0 c y) → Φ none S F I2 J P) : ∀ (m i : Nat) (I : mhI), i + m = gSides w h → mhHs S F I a w h → opN w h (fun s => I (a + 8) (nI s)) (fun x => if x < i then kd x else 0) → (∀ c y, c ≠ a + 8 → I c y = I0 c y) → mhV l K mX1_openBy kc ks Φ 10 [some (.ref a), some (.ref b), some (.int (nI i))] [] S F I J P := by
  intro m
  induction m with
  | zero =>
    intro i I hi hH ho hf
    obtain rfl : i = gSides w h := by omega
    have hbd := gBd hH.2.1
    refine mh_iload_2 dX1_openBy_10 (q := 11) rfl ?_
    refine mh_aload_0 dX1_openBy_11 (q := 12) rfl ?_
    refine mh_getI fl_X1_68 dX1_openBy_12 (q := 15) rfl (shX1_0 hH.1) rfl ?_
    rw [hH.2.2.2.2.2.1]
    refine mh_icmp_ge dX1_openBy_15 (tgt := 36) (q := 18) rfl rfl (fun _ => ?_) (fun hh => absurd (nI_le (Nat.le_refl _) (by omega)) hh)
    refine mh_return dX1_openBy_36 rfl ?_
    exact hΦ I (opN_congr ho (fun _ _ => rfl) (fun k hk => by rw [if_pos hk])) hf
  | succ m ih =>
    intro i I hi hH ho hf
    have hbd := gBd hH.2.1
    have hik : i < gSides w h := by omega
    refine mh_iload_2 dX1_openBy_10 (q := 11) rfl ?_
    refine mh_aload_0 dX1_openBy_11 (q := 12) rfl ?_
    refine mh_getI fl_X1_68 dX1_openBy_12 (q := 15) rfl (shX1_0 hH.1) rfl ?_
    rw [hH.2.2.2.2.2.1]
    refine mh_icmp_ge dX1_openBy_15 (tgt := 36) (q := 18) rfl rfl (fun hh => absurd hh (nI_ge (by omega) (by omega))) (fun _ => ?_)
    refine mh_aload_1 dX1_openBy_18 (q := 19) rfl ?_
    refine mh_iload_2 dX1_openBy_19 (q := 20) rfl ?_
    refine mh_iald dX1_openBy_20 (q := 21) rfl hS (vp_in_nI (by omega) (by decide)) ?_
    rw [hf b _ hb8, hkd i hik]
    refine mh_iconst_2 dX1_openBy_21 (q := 22) rfl ?_
    refine mh_icmp_ne dX1_openBy_22 (tgt := 30) (q := 25) rfl rfl (fun c22 => ?_) (fun c22 => ?_)
    · skip
      refine mh_iinc_2 (v := 1) dX1_openBy_30 (q := 33) rfl (by decide) ?_
      refine mh_goto dX1_openBy_33 (tgt := 10) rfl ?_
      rw [nI_1]
      refine ih (i + 1) I (by omega) hH (opN_congr ho (fun _ _ => rfl) (fun k hk => ?_)) hf
      try dsimp only
      by_cases c : k < i
      · rw [if_pos c, if_pos (by omega)]
      · rw [if_neg c]
        by_cases c2 : k < i + 1
        · rw [if_pos c2, show k = i by omega]
          exact ⟨fun z => absurd z (by decide), fun z => absurd z c22⟩
        · rw [if_neg c2]
    · skip
      refine mh_aload_0 dX1_openBy_25 (q := 26) rfl ?_
      refine mh_iload_2 dX1_openBy_26 (q := 27) rfl ?_
      refine mh_callV1 ca_X1_openBy_27 (shX1_0 hH.1) (q := 30) rfl (by simp [Value.category]) ⟨Nat.zero_le _, Nat.zero_le _⟩ ?_
      refine sp_X1_openAlso hH hik ?_
      refine mh_iinc_2 (v := 1) dX1_openBy_30 (q := 33) rfl (by decide) ?_
      refine mh_goto dX1_openBy_33 (tgt := 10) rfl ?_
      rw [nI_1]
      have hfr : frH a F I F (mhUI I (a + 8) (nI (gSl w h i)) (I (a + 8) (nI (gSl w h i)) ||| (1 <<< (nI (gRo w h i) &&& 31)))) := ⟨fun _ _ _ => rfl, fun c y hc => mhUI_ne (by omega)⟩
      refine ih (i + 1) _ (by omega) (hH.frh hfr) (opN_congr (opN_add (b := a + 8) hH.2.1 ho hik) (fun _ _ => rfl) (fun k hk => ?_)) (fun c y hc => (mhUI_ne hc).trans (hf c y hc))
      try dsimp only
      by_cases c0 : k = i
      · subst c0
        rw [if_pos rfl, if_pos (by omega)]
        exact ⟨fun _ => c22, fun _ => rfl⟩
      · rw [if_neg c0]
        by_cases c : k < i
        · rw [if_pos c, if_pos (by omega)]
        · rw [if_neg c, if_neg (by omega)]
set_option maxHeartbeats 4000000 in
set_option maxRecDepth 100000 in
theorem sp_X1_openBy {l : Launch} {K : mhX} {Φ : mhQ} {S : List mhS} {F : mhF} {I : mhI} {J : mhJ} {P : mhP} {a w h : Nat} (hH : mhHs S F I a w h) {b : Nat} {kd : Nat → Int32} (hS : S[b]? = some (.inl (0, 43))) (hb8 : b ≠ a + 8) (hkd : ∀ k, k < gSides w h → I b (nI k) = kd k) (hΦ : ∀ I2 : mhI, opN w h (fun s => I2 (a + 8) (nI s)) kd → (∀ c y, c ≠ a + 8 → I2 c y = I c y) → Φ none S F I2 J P) : mhOk l K mX1_openBy [.ref a, .ref b] S F I J P Φ := by
  refine mhOk.of (by decide) (by decide) rfl (Nat.le_of_ble_eq_true rfl) ?_
  refine mh_aload_0 dX1_openBy_0 (q := 1) rfl ?_
  refine mh_getR fl_X1_46 dX1_openBy_1 (q := 4) rfl (shX1_0 hH.1) rfl ?_
  refine mh_iconst_0 dX1_openBy_4 (q := 5) rfl ?_
  refine mh_callS2 ca_X1_openBy_5 (q := 8) rfl (by simp [Value.category]) ⟨Nat.zero_le _, Nat.zero_le _⟩ ?_
  refine sp_J7_fill_53178 (shX1_8 hH.1) (by decide) ?_
  refine mh_iconst_0 dX1_openBy_8 (q := 9) rfl ?_
  refine mh_istore_2 dX1_openBy_9 (q := 10) rfl ?_
  have hfr : frH a F I F (mhFill I (a + 8) 4 0) := ⟨fun _ _ _ => rfl, fun c y hc => if_neg (fun e => by omega)⟩
  refine lp_X1_openBy (kc := mX1_openBy.2.2.2.2.cells - mJ7_fill_53178.2.2.2.2.cells) (ks := mX1_openBy.2.2.2.2.slots - mJ7_fill_53178.2.2.2.2.slots) hS hb8 hkd hΦ (gSides w h) 0 _ (Nat.zero_add _) (hH.frh hfr) (fun s r hs hr => ?_) (fun c y hc => if_neg (fun e => hc e.1))
  try dsimp only
  rw [show mhFill I (a + 8) 4 0 (a + 8) (nI s) = 0 from if_pos ⟨rfl, by rw [nI_toInt (by omega)]; omega, by rw [nI_toInt (by omega)]; omega⟩, bt_zero]
  exact ⟨fun e => absurd e (by decide), fun ⟨x, _, z, _⟩ => absurd z (by rw [if_neg (Nat.not_lt_zero x)]; decide)⟩
