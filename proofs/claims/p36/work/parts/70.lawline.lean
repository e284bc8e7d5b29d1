/-! the law's line, called -/
theorem sgO_m : ∀ k ∈ List.range 201, ∀ c ∈ [1, 2], (sgO (nI c + (nI k - 100)) = 0 ↔ ((c : Int) + ((k : Int) - 100)) % 3 = 0) ∧ ∀ j ∈ [1, 2], (sgO (nI c + (nI k - 100)) = nI j ↔ ((c : Int) + ((k : Int) - 100)) % 3 = j) := by decide +kernel
theorem sgO_r : ∀ k ∈ List.range 201, ∀ c ∈ [1, 2], sgO (nI c + (nI k - 100)) = 0 ∨ sgO (nI c + (nI k - 100)) = nI 1 ∨ sgO (nI c + (nI k - 100)) = nI 2 := by decide +kernel
theorem sgO_at {x : Int32} (h1 : -60 ≤ x) (h2 : x ≤ 60) {c : Nat} (hc : c = 1 ∨ c = 2) : (sgO (nI c + x) = 0 ∧ ((c : Int) + x.toInt) % 3 = 0) ∨ (sgO (nI c + x) = nI 1 ∧ ((c : Int) + x.toInt) % 3 = 1) ∨ (sgO (nI c + x) = nI 2 ∧ ((c : Int) + x.toInt) % 3 = 2) := by
  obtain ⟨k, hk, rfl⟩ := mh_rg (x := x) (by grind) (by grind)
  have e : (nI k - 100 : Int32).toInt = (k : Int) - 100 := by rw [show (100 : Int32) = nI 100 from rfl, pk_sub_toInt (by omega) (by decide)]; rfl
  have hc' : c ∈ [1, 2] := by simp; omega
  have h := sgO_m k (List.mem_range.mpr hk) c hc'
  have hj1 := h.2 1 (by simp)
  have hj2 := h.2 2 (by simp)
  rw [e]
  rcases sgO_r k (List.mem_range.mpr hk) c hc' with q | q | q
  · exact Or.inl ⟨q, h.1.mp q⟩
  · exact Or.inr (Or.inl ⟨q, hj1.mp q⟩)
  · exact Or.inr (Or.inr ⟨q, hj2.mp q⟩)
/-- whether a middle may be at the end of a turn, as the class has it -/
theorem lnC_st {w r : Nat} {p q : Int32} (hb : sgBd p q) : lnC (lnD w r (3 * ((r / 2 % w : Nat) : Int) + 1 + ((r % 2 : Nat) : Int)) (3 * ((r / 2 / w : Nat) : Int) + 1 + ((r % 2 : Nat) : Int))) (lnR r p.toInt q.toInt) ↔ ¬ (sgO (nI (sgMid r) + p) = 0 ∨ ¬ sgO (nI (sgMid r) + p) = sgO (nI (sgMid r) + q)) := by
  have hm : sgMid r = 1 ∨ sgMid r = 2 := by unfold sgMid; split <;> omega
  have n12 : ¬ nI 1 = nI 2 := by decide
  have n21 : ¬ nI 2 = nI 1 := by decide
  have n10 : ¬ nI 1 = 0 := by decide
  have n20 : ¬ nI 2 = 0 := by decide
  have n01 : ¬ (0 : Int32) = nI 1 := by decide
  have n02 : ¬ (0 : Int32) = nI 2 := by decide
  have hp := sgO_at hb.1.1 hb.1.2 hm
  have hq := sgO_at hb.2.1 hb.2.2 hm
  unfold lnC
  rw [lnD_st (d := 0) (by omega), lnD_st (d := 1) (by omega)]
  unfold lnR lnE lnS
  have e2 : (r % 2 = 0 ∧ sgMid r = 1) ∨ (r % 2 = 1 ∧ sgMid r = 2) := by unfold sgMid; split <;> omega
  rcases e2 with ⟨e, em⟩ | ⟨e, em⟩ <;> rw [em] at hp hq ⊢ <;> simp (decide := true) only [e, if_true, if_false] <;>
    rcases hp with ⟨a1, a2⟩ | ⟨a1, a2⟩ | ⟨a1, a2⟩ <;> rcases hq with ⟨b1, b2⟩ | ⟨b1, b2⟩ | ⟨b1, b2⟩ <;> rw [a1, b1] <;> simp only [n12, n21, n10, n20, n01, n02, true_or, or_true, or_false, false_or, not_true_eq_false, not_false_eq_true, iff_true, iff_false] <;> omega
set_option maxHeartbeats 4000000 in
set_option maxRecDepth 100000 in
theorem sp_L_go {l : Launch} {K : mhX} {Φ : mhQ} {S : List mhS} {F : mhF} {I : mhI} {J : mhJ} {P : mhP} {b oo w h r : Nat} {kd : Nat → Int32} {p q : Int32} (hO : lwOf S I b w h kd) (hU : S[oo]? = some (.inl (0, 5))) (hne : b ≠ oo) (hr : r < gRooms w h) (hkd : ∀ x, x < gSides w h → 0 ≤ kd x) (hb : sgBd p q) (hz : ¬ (p = 0 ∧ q = 0)) {N : Nat} (hN : N ≤ 200) (hΦ : ∀ I2, frO oo I I2 → lwOut S I2 oo (sgRun w h kd (sgPa p q) N (sgSt r p q)).2.2.2.1 (sgRun w h kd (sgPa p q) N (sgSt r p q)).2.2.2.2.1 (sgRun w h kd (sgPa p q) N (sgSt r p q)).2.2.1 (sgRun w h kd (sgPa p q) N (sgSt r p q)).2.2.2.2.2.1 0 → Φ (some (.int (sgRun w h kd (sgPa p q) N (sgSt r p q)).2.2.2.2.2.2)) S F I2 J P) : mhOk l K mL_go [.ref b, .int (nI r), .int p, .int q, .int (nI N), .ref oo] S F I J P Φ := by
  have hg := hO.2.1
  have hrm := gBd hg
  have hw1 := hg.1
  have hw2 := hg.2.1
  have hd1 : r / 2 % w ≤ r := Nat.le_trans (Nat.mod_le _ _) (Nat.div_le_self _ _)
  have hd2 : r / 2 / w ≤ r := Nat.le_trans (Nat.div_le_self _ _) (Nat.div_le_self _ _)
  have e2 : nI r / 2 = nI (r / 2) := by rw [show (2 : Int32) = nI 2 from rfl]; exact pk_div (by omega) (by omega) (by omega)
  have e3 : nI (r / 2) - nI (r / 2) / nI w * nI w = nI (r / 2 % w) := pk_rem (by omega) (by omega) (by omega)
  have e4 : nI (r / 2) / nI w = nI (r / 2 / w) := pk_div (by omega) (by omega) (by omega)
  have e5 : nI r - nI r / 2 * 2 = nI (r % 2) := mh_ev r (by omega)
  have hst : lwOut S (mhUI (mhUI (mhUI (mhUI (mhUI I oo 0 0) oo 1 0) oo 2 (nI r)) oo 3 (-9)) oo 4 0) oo 0 0 r (-9) 0 := ⟨hU, by simp (decide := true) [mhUI], by simp (decide := true) [mhUI], by simp (decide := true) [mhUI], by simp (decide := true) [mhUI], by simp (decide := true) [mhUI]⟩
  have hfr : frO oo I (mhUI (mhUI (mhUI (mhUI (mhUI I oo 0 0) oo 1 0) oo 2 (nI r)) oo 3 (-9)) oo 4 0) := (((frO.up.tr frO.up).tr frO.up).tr frO.up).tr frO.up
  refine mhOk.of (by decide) (by decide) rfl (Nat.le_of_ble_eq_true rfl) ?_
  refine mh_iconst_3 dL_go_0 (q := 1) rfl ?_
  refine mh_iload_1 dL_go_1 (q := 2) rfl ?_
  refine mh_iconst_2 dL_go_2 (q := 3) rfl ?_
  refine mh_idiv dL_go_3 (q := 4) rfl (by decide) ?_
  rw [e2]
  refine mh_aload_0 dL_go_4 (q := 5) rfl ?_
  refine mh_iconst_0 dL_go_5 (q := 6) rfl ?_
  refine mh_iald dL_go_6 (q := 7) rfl hO.1 (vp_in_nI (n := 0) (by decide) (by decide)) ?_
  rw [hO.2.2.1]
  refine mh_irem dL_go_7 (q := 8) rfl (gW0 hO.2.1) ?_
  rw [e3]
  refine mh_imul dL_go_8 (q := 9) rfl ?_
  refine mh_iconst_1 dL_go_9 (q := 10) rfl ?_
  refine mh_iadd dL_go_10 (q := 11) rfl ?_
  refine mh_iload_1 dL_go_11 (q := 12) rfl ?_
  refine mh_iconst_2 dL_go_12 (q := 13) rfl ?_
  refine mh_irem dL_go_13 (q := 14) rfl (by decide) ?_
  rw [e5]
  refine mh_iadd dL_go_14 (q := 15) rfl ?_
  refine mh_i2lN (show (3 : Int32) * nI (r / 2 % w) + 1 + nI (r % 2) = nI (3 * (r / 2 % w) + 1 + r % 2) from by rw [show (3 : Int32) = nI 3 from rfl, pk_mul, show (1 : Int32) = nI 1 from rfl, nI_add, nI_add]) (by omega) dL_go_15 (q := 16) rfl ?_
  rw [show ((3 * (r / 2 % w) + 1 + r % 2 : Nat) : Int) = 3 * ((r / 2 % w : Nat) : Int) + 1 + ((r % 2 : Nat) : Int) from by omega]
  refine mh_lstore_6 dL_go_16 (q := 18) rfl ?_
  refine mh_iconst_3 dL_go_18 (q := 19) rfl ?_
  refine mh_iload_1 dL_go_19 (q := 20) rfl ?_
  refine mh_iconst_2 dL_go_20 (q := 21) rfl ?_
  refine mh_idiv dL_go_21 (q := 22) rfl (by decide) ?_
  rw [e2]
  refine mh_aload_0 dL_go_22 (q := 23) rfl ?_
  refine mh_iconst_0 dL_go_23 (q := 24) rfl ?_
  refine mh_iald dL_go_24 (q := 25) rfl hO.1 (vp_in_nI (n := 0) (by decide) (by decide)) ?_
  rw [hO.2.2.1]
  refine mh_idiv dL_go_25 (q := 26) rfl (gW0 hO.2.1) ?_
  rw [e4]
  refine mh_imul dL_go_26 (q := 27) rfl ?_
  refine mh_iconst_1 dL_go_27 (q := 28) rfl ?_
  refine mh_iadd dL_go_28 (q := 29) rfl ?_
  refine mh_iload_1 dL_go_29 (q := 30) rfl ?_
  refine mh_iconst_2 dL_go_30 (q := 31) rfl ?_
  refine mh_irem dL_go_31 (q := 32) rfl (by decide) ?_
  rw [e5]
  refine mh_iadd dL_go_32 (q := 33) rfl ?_
  refine mh_i2lN (show (3 : Int32) * nI (r / 2 / w) + 1 + nI (r % 2) = nI (3 * (r / 2 / w) + 1 + r % 2) from by rw [show (3 : Int32) = nI 3 from rfl, pk_mul, show (1 : Int32) = nI 1 from rfl, nI_add, nI_add]) (by omega) dL_go_33 (q := 34) rfl ?_
  rw [show ((3 * (r / 2 / w) + 1 + r % 2 : Nat) : Int) = 3 * ((r / 2 / w : Nat) : Int) + 1 + ((r % 2 : Nat) : Int) from by omega]
  refine mh_lstore_8 dL_go_34 (q := 36) rfl ?_
  refine mh_iload_2 dL_go_36 (q := 37) rfl ?_
  refine mh_i2lJ dL_go_37 (q := 38) rfl ?_
  refine mh_lstore_10 dL_go_38 (q := 40) rfl ?_
  refine mh_iload_3 dL_go_40 (q := 41) rfl ?_
  refine mh_i2lJ dL_go_41 (q := 42) rfl ?_
  refine mh_lstore_12 dL_go_42 (q := 44) rfl ?_
  refine mh_lconstJ_0 dL_go_44 (q := 45) rfl ?_
  refine mh_lstore_14 dL_go_45 (q := 47) rfl ?_
  refine mh_lconstJ_1 dL_go_47 (q := 48) rfl ?_
  refine mh_lstore_16 dL_go_48 (q := 50) rfl ?_
  refine mh_aload_5 dL_go_50 (q := 52) rfl ?_
  refine mh_iconst_0 dL_go_52 (q := 53) rfl ?_
  refine mh_iconst_0 dL_go_53 (q := 54) rfl ?_
  refine mh_iast dL_go_54 (q := 55) rfl hU (by decide) (vp_in_nI (n := 0) (by decide) (by decide)) ?_
  refine mh_aload_5 dL_go_55 (q := 57) rfl ?_
  refine mh_iconst_1 dL_go_57 (q := 58) rfl ?_
  refine mh_iconst_0 dL_go_58 (q := 59) rfl ?_
  refine mh_iast dL_go_59 (q := 60) rfl hU (by decide) (vp_in_nI (n := 1) (by decide) (by decide)) ?_
  refine mh_aload_5 dL_go_60 (q := 62) rfl ?_
  refine mh_iconst_2 dL_go_62 (q := 63) rfl ?_
  refine mh_iload_1 dL_go_63 (q := 64) rfl ?_
  refine mh_iast dL_go_64 (q := 65) rfl hU (by decide) (vp_in_nI (n := 2) (by decide) (by decide)) ?_
  refine mh_aload_5 dL_go_65 (q := 67) rfl ?_
  refine mh_iconst_3 dL_go_67 (q := 68) rfl ?_
  refine mh_bipush (v := (-9)) dL_go_68 (q := 70) rfl (by decide) ?_
  refine mh_iast dL_go_70 (q := 71) rfl hU (by decide) (vp_in_nI (n := 3) (by decide) (by decide)) ?_
  refine mh_aload_5 dL_go_71 (q := 73) rfl ?_
  refine mh_iconst_4 dL_go_73 (q := 74) rfl ?_
  refine mh_iconst_0 dL_go_74 (q := 75) rfl ?_
  refine mh_iast dL_go_75 (q := 76) rfl hU (by decide) (vp_in_nI (n := 4) (by decide) (by decide)) ?_
  exact lp_L_go hne hkd hN N (sgSt r p q) _ _ _ _ _ _ _ none none none none none none none none none none none none none none none none none none none none none (hO.fr hfr hne) hst hfr (lnRel_st hb hz) (sgOk_st hb hr) rfl (by omega) (by omega) (Nat.zero_add N) hΦ
set_option maxHeartbeats 4000000 in
set_option maxRecDepth 100000 in
theorem sp_L_goI {l : Launch} {K : mhX} {Φ : mhQ} {S : List mhS} {F : mhF} {I : mhI} {J : mhJ} {P : mhP} {b oo w h r : Nat} {kd : Nat → Int32} {p q : Int32} (hO : lwOf S I b w h kd) (hU : S[oo]? = some (.inl (0, 5))) (hne : b ≠ oo) (hr : r < gRooms w h) (hkd : ∀ x, x < gSides w h → 0 ≤ kd x) (hb : sgBd p q) (hz : ¬ (p = 0 ∧ q = 0)) (hΦ : ∀ I2 fl2, frO oo I I2 → lwOut S I2 oo (sgIt w h kd (sgPa p q) 200 (sgSt r p q)).2.2.2.1 (sgIt w h kd (sgPa p q) 200 (sgSt r p q)).2.2.2.2.1 (sgIt w h kd (sgPa p q) 200 (sgSt r p q)).2.2.1 (sgIt w h kd (sgPa p q) 200 (sgSt r p q)).2.2.2.2.2.1 fl2 → ((sgIt w h kd (sgPa p q) 200 (sgSt r p q)).2.2.2.2.2.2 = 2 → (¬ (sgO (nI (sgMid r) + p) = 0 ∨ ¬ sgO (nI (sgMid r) + p) = sgO (nI (sgMid r) + q)) → fl2 = 1) ∧ (¬ ¬ (sgO (nI (sgMid r) + p) = 0 ∨ ¬ sgO (nI (sgMid r) + p) = sgO (nI (sgMid r) + q)) → fl2 = 0)) → Φ (some (.int (sgIt w h kd (sgPa p q) 200 (sgSt r p q)).2.2.2.2.2.2)) S F I2 J P) : mhOk l K mL_go [.ref b, .int (nI r), .int p, .int q, .int (-1), .ref oo] S F I J P Φ := by
  have hg := hO.2.1
  have hrm := gBd hg
  have hw1 := hg.1
  have hw2 := hg.2.1
  have hd1 : r / 2 % w ≤ r := Nat.le_trans (Nat.mod_le _ _) (Nat.div_le_self _ _)
  have hd2 : r / 2 / w ≤ r := Nat.le_trans (Nat.div_le_self _ _) (Nat.div_le_self _ _)
  have e2 : nI r / 2 = nI (r / 2) := by rw [show (2 : Int32) = nI 2 from rfl]; exact pk_div (by omega) (by omega) (by omega)
  have e3 : nI (r / 2) - nI (r / 2) / nI w * nI w = nI (r / 2 % w) := pk_rem (by omega) (by omega) (by omega)
  have e4 : nI (r / 2) / nI w = nI (r / 2 / w) := pk_div (by omega) (by omega) (by omega)
  have e5 : nI r - nI r / 2 * 2 = nI (r % 2) := mh_ev r (by omega)
  have hst : lwOut S (mhUI (mhUI (mhUI (mhUI (mhUI I oo 0 0) oo 1 0) oo 2 (nI r)) oo 3 (-9)) oo 4 0) oo 0 0 r (-9) 0 := ⟨hU, by simp (decide := true) [mhUI], by simp (decide := true) [mhUI], by simp (decide := true) [mhUI], by simp (decide := true) [mhUI], by simp (decide := true) [mhUI]⟩
  have hfr : frO oo I (mhUI (mhUI (mhUI (mhUI (mhUI I oo 0 0) oo 1 0) oo 2 (nI r)) oo 3 (-9)) oo 4 0) := (((frO.up.tr frO.up).tr frO.up).tr frO.up).tr frO.up
  have hmu : sgMu (sgPa p q) (sgSt r p q).1 ≤ 200 := by
    have b0 := (sgPa_nI hb 0).2
    have b1 := (sgPa_nI hb 1).2
    have b2 := (sgPa_nI hb 2).2
    unfold sgMu
    omega
  refine mhOk.of (by decide) (by decide) rfl (Nat.le_of_ble_eq_true rfl) ?_
  refine mh_iconst_3 dL_go_0 (q := 1) rfl ?_
  refine mh_iload_1 dL_go_1 (q := 2) rfl ?_
  refine mh_iconst_2 dL_go_2 (q := 3) rfl ?_
  refine mh_idiv dL_go_3 (q := 4) rfl (by decide) ?_
  rw [e2]
  refine mh_aload_0 dL_go_4 (q := 5) rfl ?_
  refine mh_iconst_0 dL_go_5 (q := 6) rfl ?_
  refine mh_iald dL_go_6 (q := 7) rfl hO.1 (vp_in_nI (n := 0) (by decide) (by decide)) ?_
  rw [hO.2.2.1]
  refine mh_irem dL_go_7 (q := 8) rfl (gW0 hO.2.1) ?_
  rw [e3]
  refine mh_imul dL_go_8 (q := 9) rfl ?_
  refine mh_iconst_1 dL_go_9 (q := 10) rfl ?_
  refine mh_iadd dL_go_10 (q := 11) rfl ?_
  refine mh_iload_1 dL_go_11 (q := 12) rfl ?_
  refine mh_iconst_2 dL_go_12 (q := 13) rfl ?_
  refine mh_irem dL_go_13 (q := 14) rfl (by decide) ?_
  rw [e5]
  refine mh_iadd dL_go_14 (q := 15) rfl ?_
  refine mh_i2lN (show (3 : Int32) * nI (r / 2 % w) + 1 + nI (r % 2) = nI (3 * (r / 2 % w) + 1 + r % 2) from by rw [show (3 : Int32) = nI 3 from rfl, pk_mul, show (1 : Int32) = nI 1 from rfl, nI_add, nI_add]) (by omega) dL_go_15 (q := 16) rfl ?_
  rw [show ((3 * (r / 2 % w) + 1 + r % 2 : Nat) : Int) = 3 * ((r / 2 % w : Nat) : Int) + 1 + ((r % 2 : Nat) : Int) from by omega]
  refine mh_lstore_6 dL_go_16 (q := 18) rfl ?_
  refine mh_iconst_3 dL_go_18 (q := 19) rfl ?_
  refine mh_iload_1 dL_go_19 (q := 20) rfl ?_
  refine mh_iconst_2 dL_go_20 (q := 21) rfl ?_
  refine mh_idiv dL_go_21 (q := 22) rfl (by decide) ?_
  rw [e2]
  refine mh_aload_0 dL_go_22 (q := 23) rfl ?_
  refine mh_iconst_0 dL_go_23 (q := 24) rfl ?_
  refine mh_iald dL_go_24 (q := 25) rfl hO.1 (vp_in_nI (n := 0) (by decide) (by decide)) ?_
  rw [hO.2.2.1]
  refine mh_idiv dL_go_25 (q := 26) rfl (gW0 hO.2.1) ?_
  rw [e4]
  refine mh_imul dL_go_26 (q := 27) rfl ?_
  refine mh_iconst_1 dL_go_27 (q := 28) rfl ?_
  refine mh_iadd dL_go_28 (q := 29) rfl ?_
  refine mh_iload_1 dL_go_29 (q := 30) rfl ?_
  refine mh_iconst_2 dL_go_30 (q := 31) rfl ?_
  refine mh_irem dL_go_31 (q := 32) rfl (by decide) ?_
  rw [e5]
  refine mh_iadd dL_go_32 (q := 33) rfl ?_
  refine mh_i2lN (show (3 : Int32) * nI (r / 2 / w) + 1 + nI (r % 2) = nI (3 * (r / 2 / w) + 1 + r % 2) from by rw [show (3 : Int32) = nI 3 from rfl, pk_mul, show (1 : Int32) = nI 1 from rfl, nI_add, nI_add]) (by omega) dL_go_33 (q := 34) rfl ?_
  rw [show ((3 * (r / 2 / w) + 1 + r % 2 : Nat) : Int) = 3 * ((r / 2 / w : Nat) : Int) + 1 + ((r % 2 : Nat) : Int) from by omega]
  refine mh_lstore_8 dL_go_34 (q := 36) rfl ?_
  refine mh_iload_2 dL_go_36 (q := 37) rfl ?_
  refine mh_i2lJ dL_go_37 (q := 38) rfl ?_
  refine mh_lstore_10 dL_go_38 (q := 40) rfl ?_
  refine mh_iload_3 dL_go_40 (q := 41) rfl ?_
  refine mh_i2lJ dL_go_41 (q := 42) rfl ?_
  refine mh_lstore_12 dL_go_42 (q := 44) rfl ?_
  refine mh_lconstJ_0 dL_go_44 (q := 45) rfl ?_
  refine mh_lstore_14 dL_go_45 (q := 47) rfl ?_
  refine mh_lconstJ_1 dL_go_47 (q := 48) rfl ?_
  refine mh_lstore_16 dL_go_48 (q := 50) rfl ?_
  refine mh_aload_5 dL_go_50 (q := 52) rfl ?_
  refine mh_iconst_0 dL_go_52 (q := 53) rfl ?_
  refine mh_iconst_0 dL_go_53 (q := 54) rfl ?_
  refine mh_iast dL_go_54 (q := 55) rfl hU (by decide) (vp_in_nI (n := 0) (by decide) (by decide)) ?_
  refine mh_aload_5 dL_go_55 (q := 57) rfl ?_
  refine mh_iconst_1 dL_go_57 (q := 58) rfl ?_
  refine mh_iconst_0 dL_go_58 (q := 59) rfl ?_
  refine mh_iast dL_go_59 (q := 60) rfl hU (by decide) (vp_in_nI (n := 1) (by decide) (by decide)) ?_
  refine mh_aload_5 dL_go_60 (q := 62) rfl ?_
  refine mh_iconst_2 dL_go_62 (q := 63) rfl ?_
  refine mh_iload_1 dL_go_63 (q := 64) rfl ?_
  refine mh_iast dL_go_64 (q := 65) rfl hU (by decide) (vp_in_nI (n := 2) (by decide) (by decide)) ?_
  refine mh_aload_5 dL_go_65 (q := 67) rfl ?_
  refine mh_iconst_3 dL_go_67 (q := 68) rfl ?_
  refine mh_bipush (v := (-9)) dL_go_68 (q := 70) rfl (by decide) ?_
  refine mh_iast dL_go_70 (q := 71) rfl hU (by decide) (vp_in_nI (n := 3) (by decide) (by decide)) ?_
  refine mh_aload_5 dL_go_71 (q := 73) rfl ?_
  refine mh_iconst_4 dL_go_73 (q := 74) rfl ?_
  refine mh_iconst_0 dL_go_74 (q := 75) rfl ?_
  refine mh_iast dL_go_75 (q := 76) rfl hU (by decide) (vp_in_nI (n := 4) (by decide) (by decide)) ?_
  exact lp_L_goI hne hkd 200 (sgSt r p q) _ _ _ _ _ _ _ none none none none none none none none none none none none none none none none none none none none none (hO.fr hfr hne) hst hfr (lnRel_st hb hz) (sgOk_st hb hr) rfl (by omega) (by omega) hmu (by show 0 + 200 ≤ 400; omega) (lnC_st hb) (by omega) hΦ
/-! how runs of a line hang together -/
theorem sgRun_le {w h : Nat} {kd : Nat → Int32} {p : Nat → Nat} : ∀ (n : Nat) (g : mhSg), (sgRun w h kd p n g).2.2.2.1 ≤ g.2.2.2.1 + n
  | 0, g => Nat.le_refl _
  | n + 1, g => by
    by_cases he : g.2.2.2.2.2.2 = 2
    · rw [sgRun_s he]
      have h1 := sgRun_le (w := w) (h := h) (kd := kd) (p := p) n (sgStep w h kd p g)
      have h2 := (sgStep_c (w := w) (h := h) (kd := kd) (p := p) (g := g)).1
      omega
    · rw [sgRun_end he]
      omega
theorem sgRun_at {w h : Nat} {kd : Nat → Int32} {p : Nat → Nat} : ∀ (a n : Nat) (g : mhSg), g.2.2.2.1 + a < (sgRun w h kd p n g).2.2.2.1 → (sgRun w h kd p (a + 1) g).2.2.2.1 = g.2.2.2.1 + (a + 1) := by
  intro a
  induction a with
  | zero =>
    intro n g hl
    cases n with
    | zero => exact absurd hl (by show ¬ g.2.2.2.1 + 0 < g.2.2.2.1; omega)
    | succ n =>
      by_cases he : g.2.2.2.2.2.2 = 2
      · rw [sgRun_s he] at hl ⊢
        have h1 := (sgStep_c (w := w) (h := h) (kd := kd) (p := p) (g := g))
        show (sgStep w h kd p g).2.2.2.1 = _
        by_cases he2 : (sgStep w h kd p g).2.2.2.2.2.2 = 2
        · exact h1.2 he2
        · rw [sgRun_end he2] at hl
          omega
      · rw [sgRun_end he] at hl
        omega
  | succ a ih =>
    intro n g hl
    cases n with
    | zero => exact absurd hl (by show ¬ g.2.2.2.1 + (a + 1) < g.2.2.2.1; omega)
    | succ n =>
      by_cases he : g.2.2.2.2.2.2 = 2
      · rw [sgRun_s he] at hl
        rw [sgRun_s (n := a + 1) he]
        have h1 := (sgStep_c (w := w) (h := h) (kd := kd) (p := p) (g := g))
        by_cases he2 : (sgStep w h kd p g).2.2.2.2.2.2 = 2
        · have e := h1.2 he2
          rw [ih n (sgStep w h kd p g) (by rw [e]; omega), e]
          omega
        · rw [sgRun_end he2] at hl
          have := h1.1
          omega
      · rw [sgRun_end he] at hl
        omega
/-- how a run may end -/
theorem sgRun_ends {w h : Nat} {kd : Nat → Int32} {p : Nat → Nat} : ∀ (n : Nat) (g : mhSg), (g.2.2.2.2.2.2 = 0 ∨ g.2.2.2.2.2.2 = 1 ∨ g.2.2.2.2.2.2 = 2) → (sgRun w h kd p n g).2.2.2.2.2.2 = 0 ∨ (sgRun w h kd p n g).2.2.2.2.2.2 = 1 ∨ (sgRun w h kd p n g).2.2.2.2.2.2 = 2
  | 0, g, hg => hg
  | n + 1, g, hg => by
    by_cases he : g.2.2.2.2.2.2 = 2
    · rw [sgRun_s he]
      refine sgRun_ends n _ ?_
      unfold sgStep
      split
      · exact Or.inl rfl
      · dsimp only
        split
        · exact hg
        · split
          · exact Or.inr (Or.inl rfl)
          · exact hg
    · rw [sgRun_end he]
      exact hg
