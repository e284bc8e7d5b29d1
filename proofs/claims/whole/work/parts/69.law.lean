/-! the law: its loop, its start -/
theorem law_gt {t L : Nat} (h46 : L ≤ 4608) (ht : t ≤ L + 9) (h : L < t + 9) : nI L - 9 < nI t := by
  have e : nI L < nI (t + 9) := (nI_ltI (by omega) (by omega)).mpr h
  rw [← nI_add, show nI 9 = (9 : Int32) from rfl] at e
  have a0 : (0 : Int32) ≤ nI L := (nI_leI (a := 0) (by decide) (by omega)).mpr (Nat.zero_le _)
  have a1 : nI L ≤ 4608 := (nI_leI (b := 4608) (by omega) (by decide)).mpr h46
  have b0 : (0 : Int32) ≤ nI t := (nI_leI (a := 0) (by decide) (by omega)).mpr (Nat.zero_le _)
  have b1 : nI t ≤ 4617 := (nI_leI (b := 4617) (by omega) (by decide)).mpr (by omega)
  grind
set_option maxHeartbeats 4000000 in
set_option maxRecDepth 100000 in
theorem lp_L_law {l : Launch} {K : mhX} {Φ : mhQ} (h46 : K.2.2.2.2.1 ≤ 4608) (hΦ : ∀ (S : List mhS) (F : mhF) (I : mhI) (J : mhJ) (P : mhP), Φ (some (.int 1)) S F I J P) : ∀ (m t kc ks : Nat) (S : List mhS) (F : mhF) (I : mhI) (J : mhJ) (P : mhP), K.2.2.2.2.1 < t + 9 * m → t ≤ K.2.2.2.2.1 + 9 → 11 * m ≤ kc → 359 * m ≤ ks → mhIv S F I P → mhV l K mL_law kc ks Φ 18 [some (.retAddr 0), some (.ref 0), some (.ref 21), some (.int (nI t))] [] S F I J P := by
  intro m
  induction m with
  | zero =>
    intro t kc ks S F I J P hL ht hkc hks hI
    refine mh_iload_3 dL_law_18 (q := 19) rfl ?_
    refine mh_aloadT_0 dL_law_19 (q := 20) rfl ?_
    refine mh_slen dL_law_20 (q := 21) rfl rfl ?_
    refine mh_bipush (v := 9) dL_law_21 (q := 23) rfl (by decide) ?_
    refine mh_isub dL_law_23 (q := 24) rfl ?_
    refine mh_icmp_gt dL_law_24 (tgt := 1571) (q := 27) rfl rfl (fun _ => ?_) (fun c => absurd (law_gt h46 ht (by omega)) c)
    refine mh_iconst_1 dL_law_1571 (q := 1572) rfl ?_
    refine mh_ireturn dL_law_1572 rfl rfl ?_
    exact hΦ _ _ _ _ _
  | succ m ih =>
    intro t kc ks S F I J P hL ht hkc hks hI
    refine mh_iload_3 dL_law_18 (q := 19) rfl ?_
    refine mh_aloadT_0 dL_law_19 (q := 20) rfl ?_
    refine mh_slen dL_law_20 (q := 21) rfl rfl ?_
    refine mh_bipush (v := 9) dL_law_21 (q := 23) rfl (by decide) ?_
    refine mh_isub dL_law_23 (q := 24) rfl ?_
    refine mh_icmp_gt dL_law_24 (tgt := 1571) (q := 27) rfl rfl (fun _ => ?_) (fun c => ?_)
    · refine mh_iconst_1 dL_law_1571 (q := 1572) rfl ?_
      refine mh_ireturn dL_law_1572 rfl rfl ?_
      exact hΦ _ _ _ _ _
    have h9 : t + 9 ≤ K.2.2.2.2.1 := by
      rcases Nat.lt_or_ge K.2.2.2.2.1 (t + 9) with q | q
      · exact absurd (law_gt h46 ht q) c
      · exact q
    have kk : ∀ (kc2 ks2 : Nat), kc ≤ kc2 + 11 → ks ≤ ks2 + 359 → ∀ (S : List mhS) (F : mhF) (I : mhI) (J : mhJ) (P : mhP), mhIv S F I P → mhV l K mL_law kc2 ks2 Φ 1565 [some (.retAddr 0), some (.ref 0), some (.ref 21), some (.int (nI t))] [] S F I J P := by
      intro kc2 ks2 q1 q2 S F I J P hI
      refine mh_iinc_3 (v := 9) dL_law_1565 (q := 1568) rfl (by decide) ?_
      refine mh_goto dL_law_1568 (tgt := 18) rfl ?_
      rw [show nI t + 9 = nI (t + 9) from nI_add t 9]
      exact ih (t + 9) kc2 ks2 S F I J P (by omega) (by omega) (by omega) (by omega) hI
    refine mh_aloadT_0 dL_law_27 (q := 28) rfl ?_
    refine mh_iload_3 dL_law_28 (q := 29) rfl ?_
    refine mh_sld dL_law_29 (q := 30) rfl rfl (sI0 h9 h46) ?_
    refine mh_bipush (v := 63) dL_law_30 (q := 32) rfl (by decide) ?_
    refine mh_iand dL_law_32 (q := 33) rfl ?_
    refine mh_tsw dL_law_33 (tgt := 1565) rfl (fun c => ?_) (fun i33 j33 c => ?_)
    · exact kk kc ks (by omega) (by omega) S F I J P hI
    · rcases (show i33 = 0 ∨ i33 = 1 ∨ i33 = 2 ∨ i33 = 3 ∨ i33 = 4 ∨ i33 = 5 ∨ i33 = 6 ∨ i33 = 7 ∨ i33 = 8 ∨ i33 = 9 ∨ i33 = 10 ∨ i33 = 11 ∨ i33 = 12 ∨ i33 = 13 ∨ i33 = 14 ∨ i33 = 15 ∨ i33 = 16 ∨ i33 = 17 ∨ i33 = 18 ∨ i33 = 19 ∨ i33 = 20 ∨ i33 = 21 ∨ i33 = 22 ∨ i33 = 23 ∨ i33 = 24 ∨ i33 = 25 ∨ i33 = 26 ∨ i33 = 27 ∨ i33 = 28 ∨ i33 = 29 ∨ i33 = 30 ∨ i33 = 31 ∨ i33 = 32 by omega) with rfl | rfl | rfl | rfl | rfl | rfl | rfl | rfl | rfl | rfl | rfl | rfl | rfl | rfl | rfl | rfl | rfl | rfl | rfl | rfl | rfl | rfl | rfl | rfl | rfl | rfl | rfl | rfl | rfl | rfl | rfl | rfl | rfl
      · exact ⟨147, 180, rfl, rfl, law_c0 hI h9 h46 (by omega) (by omega) kk⟩
      · exact ⟨200, 233, rfl, rfl, law_c1 hI h9 h46 (by omega) (by omega) kk⟩
      · exact ⟨233, 266, rfl, rfl, law_c2 hI h9 h46 (by omega) (by omega) kk⟩
      · exact ⟨276, 309, rfl, rfl, law_c3 hI h9 h46 (by omega) (by omega) kk⟩
      · exact ⟨319, 352, rfl, rfl, law_c4 hI h9 h46 (by omega) (by omega) kk⟩
      · exact ⟨362, 395, rfl, rfl, law_c5 hI h9 h46 (by omega) (by omega) kk⟩
      · exact ⟨437, 470, rfl, rfl, law_c6 hI h9 h46 (by omega) (by omega) kk⟩
      · exact ⟨500, 533, rfl, rfl, law_c7 hI h9 h46 (by omega) (by omega) kk⟩
      · exact ⟨553, 586, rfl, rfl, law_c8 hI h9 h46 (by omega) (by omega) kk⟩
      · exact ⟨616, 649, rfl, rfl, law_c9 hI h9 h46 (by omega) (by omega) kk⟩
      · exact ⟨695, 728, rfl, rfl, law_c10 hI h9 h46 (by omega) (by omega) kk⟩
      · exact ⟨718, 751, rfl, rfl, law_c11 hI h9 h46 (by omega) (by omega) kk⟩
      · exact ⟨771, 804, rfl, rfl, law_c12 hI h9 h46 (by omega) (by omega) kk⟩
      · exact ⟨794, 827, rfl, rfl, law_c13 hI h9 h46 (by omega) (by omega) kk⟩
      · exact ⟨847, 880, rfl, rfl, law_c14 hI h9 h46 (by omega) (by omega) kk⟩
      · exact ⟨880, 913, rfl, rfl, law_c15 hI h9 h46 (by omega) (by omega) kk⟩
      · exact ⟨913, 946, rfl, rfl, law_c16 hI h9 h46 (by omega) (by omega) kk⟩
      · exact ⟨936, 969, rfl, rfl, law_c17 hI h9 h46 (by omega) (by omega) kk⟩
      · exact ⟨969, 1002, rfl, rfl, law_c18 hI h9 h46 (by omega) (by omega) kk⟩
      · exact ⟨1012, 1045, rfl, rfl, law_c19 hI h9 h46 (by omega) (by omega) kk⟩
      · exact ⟨1111, 1144, rfl, rfl, law_c20 hI h9 h46 (by omega) (by omega) kk⟩
      · exact ⟨1145, 1178, rfl, rfl, law_c21 hI h9 h46 (by omega) (by omega) kk⟩
      · exact ⟨1188, 1221, rfl, rfl, law_c22 hI h9 h46 (by omega) (by omega) kk⟩
      · exact ⟨1231, 1264, rfl, rfl, law_c23 hI h9 h46 (by omega) (by omega) kk⟩
      · exact ⟨1254, 1287, rfl, rfl, law_c24 hI h9 h46 (by omega) (by omega) kk⟩
      · exact ⟨1297, 1330, rfl, rfl, law_c25 hI h9 h46 (by omega) (by omega) kk⟩
      · exact ⟨1341, 1374, rfl, rfl, law_c26 hI h9 h46 (by omega) (by omega) kk⟩
      · exact ⟨1404, 1437, rfl, rfl, law_c27 hI h9 h46 (by omega) (by omega) kk⟩
      · exact ⟨1427, 1460, rfl, rfl, law_c28 hI h9 h46 (by omega) (by omega) kk⟩
      · exact ⟨1450, 1483, rfl, rfl, law_c29 hI h9 h46 (by omega) (by omega) kk⟩
      · exact ⟨1483, 1516, rfl, rfl, law_c30 hI h9 h46 (by omega) (by omega) kk⟩
      · exact ⟨1496, 1529, rfl, rfl, law_c31 hI h9 h46 (by omega) (by omega) kk⟩
      · exact ⟨1509, 1542, rfl, rfl, law_c32 hI h9 h46 (by omega) (by omega) kk⟩
theorem sF6 (j k : Nat) (hj : j < 4) : F6 (13 + 2 * j) 1 = -9 ∧ F6 (13 + 2 * j) 2 = 0 := by
  rcases (show j = 0 ∨ j = 1 ∨ j = 2 ∨ j = 3 by omega) with rfl | rfl | rfl | rfl <;> exact ⟨rfl, rfl⟩
theorem iv_start : mhIv S7 F6 I7 P6 := by
  have k4 : ∀ j, j < 4 → (j = 0 ∨ j = 1 ∨ j = 2 ∨ j = 3) := fun j hj => by omega
  refine ⟨0, fun _ => 0, fun _ => 0, fun _ => 0, fun _ _ => 0, fun _ _ => 0, fun _ => -9, fun _ => 0, fun _ _ => 0, 0, fun _ => 0, fun _ => (0, 0, 0, 0, 0), 0, fun _ => 0, 0, fun _ => 0, fun _ => (0, 0, 0, 0, 0, 0, 0, fun _ => 0), 0, 0, ?_, ?_, ?_, fun _ _ _ _ => rfl⟩
  · refine ⟨⟨⟨rfl, rfl, rfl⟩, ⟨rfl, rfl, rfl, rfl⟩⟩, ⟨⟨⟨rfl, rfl, rfl, rfl, rfl, rfl⟩, by omega, rfl, fun j hj => absurd hj (by omega)⟩, fun j hj => absurd hj (by omega), fun j hj => absurd hj (by omega), fun j _ hj => absurd hj (by omega)⟩, ⟨fun j hj => ?_, fun j hj => ⟨(sF6 j 1 hj).1, fun h => absurd rfl h⟩⟩, ⟨by omega, rfl, fun k hk => absurd hk (by omega)⟩, ⟨by omega, rfl, fun x hx => ?_⟩, ⟨⟨by omega, rfl, fun v hv => absurd hv (by omega)⟩, fun v _ hv => absurd hv (by omega)⟩, ⟨fun v _ hv => absurd hv (by omega), fun k _ hk => absurd hk (by omega), fun k _ hk => absurd hk (by omega)⟩, rfl, rfl⟩
    · refine ⟨?_, ?_, ?_, ?_⟩
      · rcases k4 j hj with rfl | rfl | rfl | rfl <;> rfl
      · rcases k4 j hj with rfl | rfl | rfl | rfl <;> exact ⟨rfl, rfl⟩
      · rw [(sF6 j 1 hj).2]; decide
      · rw [(sF6 j 1 hj).2]; decide
    · rfl
  · refine ⟨⟨⟨⟨rfl, rfl, rfl, rfl, rfl, rfl, rfl, rfl, rfl, rfl, rfl, rfl, rfl, rfl, rfl, rfl, rfl, rfl, rfl, rfl, rfl, rfl, rfl, rfl, rfl, rfl, rfl, rfl, rfl, rfl, rfl⟩, by omega, rfl, fun j hj => absurd hj (by omega)⟩, fun j hj => absurd hj (by omega), fun j hj => absurd hj (by omega)⟩, ⟨fun j hj => ?_, fun j hj => ⟨?_, fun h => absurd rfl h⟩⟩, ⟨by omega, rfl, fun k hk => absurd hk (by omega)⟩, ⟨by omega, rfl, fun x hx => rfl⟩, ⟨by omega, rfl, fun v hv => absurd hv (by omega)⟩, rfl, rfl⟩
    · have e : I7 23 (nI j) = 0 := by rcases k4 j hj with rfl | rfl | rfl | rfl <;> rfl
      rw [e]; decide
    · rcases k4 j hj with rfl | rfl | rfl | rfl <;> rfl
  · exact ⟨fun k hk => absurd hk (by omega), fun t ht => absurd ht (by omega), fun v hv => absurd hv (by omega)⟩
set_option maxHeartbeats 4000000 in
set_option maxRecDepth 100000 in
theorem go_L_law {l : Launch} {K : mhX} {Φ : mhQ} (h46 : K.2.2.2.2.1 ≤ 4608) (hΦ : ∀ (S : List mhS) (F : mhF) (I : mhI) (J : mhJ) (P : mhP), Φ (some (.int 1)) S F I J P) : mhV l K mL_law 600000 7302250 Φ 0 [some (.retAddr 0), none, none, none] [] [] zF zI zJ zP := by
  refine mh_new (ci := 6) (T := TX6) (N := 13) (ty0 := tyX6) (rs := [some none, some none, some none, some none, some none, some none, some none, none, none, none, none, none, none]) dL_law_0 wd_77 wd_78 wd_66 rfl inX6 tyX6_ok (fun j hj => by rcases (show j = 0 ∨ j = 1 ∨ j = 2 ∨ j = 3 ∨ j = 4 ∨ j = 5 ∨ j = 6 ∨ j = 7 ∨ j = 8 ∨ j = 9 ∨ j = 10 ∨ j = 11 ∨ j = 12 by omega) with rfl | rfl | rfl | rfl | rfl | rfl | rfl | rfl | rfl | rfl | rfl | rfl | rfl <;> first | exact Or.inl ⟨rfl, rfl⟩ | exact Or.inr ⟨rfl, rfl⟩) (q := 3) rfl (by decide) ?_
  refine mhV_cv (st' := [.ref 0]) (S' := [.inr (6, [some none, some none, some none, some none, some none, some none, some none, none, none, none, none, none, none])]) (F' := zF) rfl rfl rfl zF_z rfl rfl rfl ?_
  refine mh_dupr dL_law_3 (q := 4) rfl ?_
  refine mh_callI0 ca_L_law_4 (q := 7) rfl (by simp [Value.category]) (by decide) ?_
  refine sp_X6_init rfl ?_
  refine mh_astore_1 dL_law_7 (q := 8) rfl ?_
  refine mh_new (ci := 7) (T := TX7) (N := 46) (ty0 := tyX7) (rs := [none, none, some none, some none, some none, none, some none, some none, some none, some none, none, none, some none, some none, some none, none, none, none, none, none, none, some none, some none, some none, some none, some none, none, some none, none, some none, some none, some none, some none, some none, some none, some none, some none, some none, some none, none, none, some none, none, some none, some none, some none]) dL_law_8 wd_817 wd_818 wd_70 rfl inX7 tyX7_ok (fun j hj => by rcases (show j = 0 ∨ j = 1 ∨ j = 2 ∨ j = 3 ∨ j = 4 ∨ j = 5 ∨ j = 6 ∨ j = 7 ∨ j = 8 ∨ j = 9 ∨ j = 10 ∨ j = 11 ∨ j = 12 ∨ j = 13 ∨ j = 14 ∨ j = 15 ∨ j = 16 ∨ j = 17 ∨ j = 18 ∨ j = 19 ∨ j = 20 ∨ j = 21 ∨ j = 22 ∨ j = 23 ∨ j = 24 ∨ j = 25 ∨ j = 26 ∨ j = 27 ∨ j = 28 ∨ j = 29 ∨ j = 30 ∨ j = 31 ∨ j = 32 ∨ j = 33 ∨ j = 34 ∨ j = 35 ∨ j = 36 ∨ j = 37 ∨ j = 38 ∨ j = 39 ∨ j = 40 ∨ j = 41 ∨ j = 42 ∨ j = 43 ∨ j = 44 ∨ j = 45 by omega) with rfl | rfl | rfl | rfl | rfl | rfl | rfl | rfl | rfl | rfl | rfl | rfl | rfl | rfl | rfl | rfl | rfl | rfl | rfl | rfl | rfl | rfl | rfl | rfl | rfl | rfl | rfl | rfl | rfl | rfl | rfl | rfl | rfl | rfl | rfl | rfl | rfl | rfl | rfl | rfl | rfl | rfl | rfl | rfl | rfl | rfl <;> first | exact Or.inl ⟨rfl, rfl⟩ | exact Or.inr ⟨rfl, rfl⟩) (q := 11) rfl (by decide) ?_
  refine mhV_cv (lo' := [some (.retAddr 0), some (.ref 0), none, none]) (st' := [.ref 21]) (S' := [.inr (6, [some (some 1), some (some 2), some (some 3), some (some 4), some (some 5), some (some 6), some (some 10), none, none, none, none, none, none]), .inl (3, 4), .inl (4, 3), .inl (5, 12), .inl (6, 8), .inl (0, 30), .inr (4, [none, none, none, none, none, none, none, none, some (some 7), some (some 8), some (some 9)]), .inl (0, 3), .inl (0, 3), .inl (0, 3), .inr (0, [some (some 11), none, some (some 12)]), .inl (0, 10), .inl (0, 1024), .inr (3, [some (some 14), none, none]), .inl (0, 60), .inr (3, [some (some 16), none, none]), .inl (0, 60), .inr (3, [some (some 18), none, none]), .inl (0, 60), .inr (3, [some (some 20), none, none]), .inl (0, 60), .inr (7, [none, none, some none, some none, some none, none, some none, some none, some none, some none, none, none, some none, some none, some none, none, none, none, none, none, none, some none, some none, some none, some none, some none, none, some none, none, some none, some none, some none, some none, some none, some none, some none, some none, some none, some none, none, none, some none, none, some none, some none, some none])]) (F' := F6) rfl rfl rfl (by unfold F6; funext c k; unfold mhZF; split; subst_vars; simp (decide := true) [S6, mhUF, zF]; rfl) rfl rfl rfl ?_
  refine mh_dupr dL_law_11 (q := 12) rfl ?_
  refine mh_callI0 ca_L_law_12 (q := 15) rfl (by simp [Value.category]) (by decide) ?_
  refine sp_X7_init rfl ?_
  refine mh_astore_2 dL_law_15 (q := 16) rfl ?_
  refine mh_iconst_0 dL_law_16 (q := 17) rfl ?_
  refine mh_istore_3 dL_law_17 (q := 18) rfl ?_
  exact lp_L_law h46 hΦ 513 0 _ _ S7 F6 I7 zJ P6 (by omega) (by omega) (by decide) (by decide) iv_start
