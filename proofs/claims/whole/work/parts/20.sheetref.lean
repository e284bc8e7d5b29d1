/-! sheets: the reference's calls -/
def mhSm (I : mhI) : Prop := ∀ j, j < 4 → 0 ≤ I 23 (nI j) ∧ I 23 (nI j) ≤ 60
theorem mh_sc4 {k : Int32} (h : mhSc k) : vp_in k 4 := mh_vp (N := 4) rfl h.1 (by grind)
theorem mh_scj {k : Int32} (h : mhSc k) : ∃ j, j < 4 ∧ k = nI j := mh_of2 (n := 3) rfl h.1 h.2
theorem mh_e60 (j i : Nat) : (60 : Int32) * nI j + nI i = nI (60 * j + i) := by rw [show (60 : Int32) = nI 60 from rfl, pk_mul, nI_add]
theorem mh_in60 {i : Int32} (h0 : 0 ≤ i) (h1 : i < 60) : ∃ t, t < 60 ∧ i = nI t := by
  obtain ⟨t, ht, e⟩ := mh_of2 (n := 59) (M := 59) rfl h0 (by grind)
  exact ⟨t, by omega, e⟩
theorem mh_in240 {k i : Int32} (h : mhSc k) (h0 : 0 ≤ i) (h1 : i < 60) : vp_in (60 * k + i) 240 := by
  obtain ⟨j, hj, rfl⟩ := mh_scj h
  obtain ⟨t, ht, rfl⟩ := mh_in60 h0 h1
  rw [mh_e60]
  exact vp_in_nI (by omega) (by decide)
theorem mhCp_at {I : mhI} {src sp dst dp n b x : Nat} (hx : x < 2 ^ 31) : mhCp I src sp dst dp n b (nI x) = if b = dst ∧ dp ≤ x ∧ x < dp + n then I src (nI (sp + (x - dp))) else I b (nI x) := by
  unfold mhCp
  simp only [nI_clamp hx, nI_pos hx, not_false_eq_true, true_and]
theorem mhCp_neg {I : mhI} {src sp dst dp n b : Nat} {y : Int32} (hy : y < 0) : mhCp I src sp dst dp n b y = I b y := by
  unfold mhCp
  exact if_neg fun e => e.2.1 hy
theorem mhCp_0 {I : mhI} {src sp dst dp : Nat} : mhCp I src sp dst dp 0 = I := by
  funext b y
  exact if_neg fun e => by omega
theorem mhI_ext {I I' : mhI} (h0 : ∀ b y, y < 0 → I b y = I' b y) (h : ∀ b x, x < 2 ^ 31 → I b (nI x) = I' b (nI x)) : I = I' := by
  funext b y
  by_cases hy : y < 0
  · exact h0 b y hy
  · obtain ⟨x, hx, rfl⟩ := nI_of hy
    exact h b x hx
theorem mhUI_at {I : mhI} {a b i x : Nat} {v : Int32} (hi : i < 2 ^ 31) (hx : x < 2 ^ 31) : mhUI I a (nI i) v b (nI x) = if b = a ∧ x = i then v else I b (nI x) := by
  unfold mhUI
  simp only [nI_eq hx hi]
theorem mhUI_neg {I : mhI} {a b i : Nat} {v y : Int32} (hi : i < 2 ^ 31) (hy : y < 0) : mhUI I a (nI i) v b y = I b y := by
  unfold mhUI
  refine if_neg fun e => ?_
  rw [e.2] at hy
  exact nI_pos hi hy
/-- one cell more, from the end -/
theorem mhCp_sA {I : mhI} {a s d n q : Nat} (hq : q < n) (hs : s + n < 2 ^ 31) (hd : d + n < 2 ^ 31) (hr : s < d ∨ d + n ≤ s) : mhUI (mhCp I a (s + (n - q)) a (d + (n - q)) q) a (nI (d + (n - 1 - q))) (mhCp I a (s + (n - q)) a (d + (n - q)) q a (nI (s + (n - 1 - q)))) = mhCp I a (s + (n - (q + 1))) a (d + (n - (q + 1))) (q + 1) := by
  refine mhI_ext (fun b y hy => ?_) (fun b x hx => ?_)
  · rw [mhUI_neg (by omega) hy, mhCp_neg hy, mhCp_neg hy]
  · rw [mhUI_at (by omega) hx, mhCp_at hx, mhCp_at (by omega), mhCp_at hx]
    by_cases hb : b = a
    · subst hb
      by_cases h1 : x = d + (n - 1 - q)
      · rw [if_pos ⟨rfl, h1⟩, if_neg (by omega), if_pos ⟨rfl, by omega, by omega⟩]
        congr 2; omega
      · rw [if_neg (fun e => h1 e.2)]
        by_cases h2 : d + (n - q) ≤ x ∧ x < d + (n - q) + q
        · rw [if_pos ⟨rfl, h2⟩, if_pos ⟨rfl, by omega, by omega⟩]
          congr 2; omega
        · rw [if_neg (fun e => h2 e.2), if_neg (fun e => by omega)]
    · rw [if_neg (fun e => hb e.1), if_neg (fun e => hb e.1), if_neg (fun e => hb e.1)]
/-- one cell more, from the start -/
theorem mhCp_sB {I : mhI} {a s d n q : Nat} (hq : q < n) (hs : s + n < 2 ^ 31) (hd : d + n < 2 ^ 31) (hr : d ≤ s ∨ s + n ≤ d) : mhUI (mhCp I a s a d q) a (nI (d + q)) (mhCp I a s a d q a (nI (s + q))) = mhCp I a s a d (q + 1) := by
  refine mhI_ext (fun b y hy => ?_) (fun b x hx => ?_)
  · rw [mhUI_neg (by omega) hy, mhCp_neg hy, mhCp_neg hy]
  · rw [mhUI_at (by omega) hx, mhCp_at hx, mhCp_at (by omega), mhCp_at hx]
    by_cases hb : b = a
    · subst hb
      by_cases h1 : x = d + q
      · rw [if_pos ⟨rfl, h1⟩, if_neg (by omega), if_pos ⟨rfl, by omega, by omega⟩]
        congr 2; omega
      · rw [if_neg (fun e => h1 e.2)]
        by_cases h2 : d ≤ x ∧ x < d + q
        · rw [if_pos ⟨rfl, h2⟩, if_pos ⟨rfl, by omega, by omega⟩]
        · rw [if_neg (fun e => h2 e.2), if_neg (fun e => by omega)]
    · rw [if_neg (fun e => hb e.1), if_neg (fun e => hb e.1), if_neg (fun e => hb e.1)]
set_option maxHeartbeats 4000000 in
set_option maxRecDepth 100000 in
theorem lp_X7_sheet {l : Launch} {K : mhX} {kc ks : Nat} {Φ : mhQ} {S : List mhS} {F : mhF} {I : mhI} {J : mhJ} {P : mhP} (h7 : mhKX7 S) {j : Nat} (hj : j < 4) {so n : Int32} (ho : Φ (some (.int 1)) S F (mhFillR I 24 (60 * j) 60 0) J P) : ∀ (m i : Nat), i + m = 60 → mhV l K mX7_sheet kc ks Φ 57 [some (.ref 21), some (.int (nI j)), some (.int so), some (.int n), some (.int (nI i))] [] S F (mhFillR I 24 (60 * j) i 0) J P := by
  intro m
  induction m with
  | zero =>
    intro i hi
    obtain rfl : i = 60 := by omega
    refine mh_iload_4 dX7_sheet_57 (q := 59) rfl ?_
    refine mh_bipush (v := 60) dX7_sheet_59 (q := 61) rfl (by decide) ?_
    refine mh_icmp_ge dX7_sheet_61 (tgt := 83) (q := 64) rfl rfl (fun _ => ?_) (fun hh => absurd (show (60 : Int32) ≤ nI 60 by decide) hh)
    refine mh_iconst_1 dX7_sheet_83 (q := 84) rfl ?_
    refine mh_ireturn dX7_sheet_84 rfl rfl ?_
    exact ho
  | succ m ih =>
    intro i hi
    refine mh_iload_4 dX7_sheet_57 (q := 59) rfl ?_
    refine mh_bipush (v := 60) dX7_sheet_59 (q := 61) rfl (by decide) ?_
    refine mh_icmp_ge dX7_sheet_61 (tgt := 83) (q := 64) rfl rfl (fun hh => absurd hh (show ¬ (60 : Int32) ≤ nI i from nI_ge (b := 60) (by omega) (by decide))) (fun _ => ?_)
    refine mh_aload_0 dX7_sheet_64 (q := 65) rfl ?_
    refine mh_getR fl_X7_16 dX7_sheet_65 (q := 68) rfl (shX7_0 h7) rfl ?_
    refine mh_bipush (v := 60) dX7_sheet_68 (q := 70) rfl (by decide) ?_
    refine mh_iload_1 dX7_sheet_70 (q := 71) rfl ?_
    refine mh_imul dX7_sheet_71 (q := 72) rfl ?_
    refine mh_iload_4 dX7_sheet_72 (q := 74) rfl ?_
    refine mh_iadd dX7_sheet_74 (q := 75) rfl ?_
    refine mh_iconst_0 dX7_sheet_75 (q := 76) rfl ?_
    rw [mh_e60]
    refine mh_iast dX7_sheet_76 (q := 77) rfl (shX7_3 h7) (by decide) (vp_in_nI (by omega) (by decide)) ?_
    refine mh_iinc_4 (v := 1) dX7_sheet_77 (q := 80) rfl (by decide) ?_
    refine mh_goto dX7_sheet_80 (tgt := 57) rfl ?_
    rw [mhFillR_s (by omega), nI_1]
    exact ih (i + 1) (by omega)
set_option maxHeartbeats 4000000 in
set_option maxRecDepth 100000 in
theorem sp_X7_sheet {l : Launch} {K : mhX} {Φ : mhQ} {S : List mhS} {F : mhF} {I : mhI} {J : mhJ} {P : mhP} (h7 : mhKX7 S) (hL : mhSm I) {k so n : Int32} (hb : ¬ mhShOk k so n → Φ (some (.int (mhShR k so n))) S (mhUF F 21 0 (mhShF k so n)) I J P) (ho : ∀ j, j < 4 → k = nI j → mhShOk k so n → Φ (some (.int 1)) S (mhUF F 21 0 0) (mhFillR (mhUI (mhUI I 22 k so) 23 k n) 24 (60 * j) 60 0) J P) : mhOk l K mX7_sheet [.ref 21, .int k, .int so, .int n] S F I J P Φ := by
  refine mhOk.of (by decide) (by decide) rfl (Nat.le_of_ble_eq_true rfl) ?_
  refine mh_aload_0 dX7_sheet_0 (q := 1) rfl ?_
  refine mh_iconst_0 dX7_sheet_1 (q := 2) rfl ?_
  refine mh_putI (Or.inl fw_X7_102) rfl rfl dX7_sheet_2 (q := 5) rfl (shX7_0 h7) rfl ?_
  refine mh_iload_1 dX7_sheet_5 (q := 6) rfl ?_
  refine mh_callS1 ca_X7_sheet_6 (q := 9) rfl (by simp [Value.category]) ⟨Nat.zero_le _, Nat.zero_le _⟩ ?_
  refine sp_X7_isSheet (fun c6 => ?_) (fun c6 => ?_)
  · skip
    refine mh_if_ne dX7_sheet_9 (tgt := 14) (q := 12) rfl rfl (fun _ => ?_) (fun hh => False.elim (by revert hh; decide))
    refine mh_iload_2 dX7_sheet_14 (q := 15) rfl ?_
    refine mh_callS1 ca_X7_sheet_15 (q := 18) rfl (by simp [Value.category]) ⟨Nat.zero_le _, Nat.zero_le _⟩ ?_
    refine sp_X7_isSort (fun c15 => ?_) (fun c15 => ?_)
    · skip
      refine mh_if_eq dX7_sheet_18 (tgt := 27) (q := 21) rfl rfl (fun hh => False.elim (by revert hh; decide)) (fun _ => ?_)
      refine mh_iload_3 dX7_sheet_21 (q := 22) rfl ?_
      refine mh_bipush (v := 60) dX7_sheet_22 (q := 24) rfl (by decide) ?_
      refine mh_icmp_le dX7_sheet_24 (tgt := 30) (q := 27) rfl rfl (fun c24 => ?_) (fun c24 => ?_)
      · skip
        refine mh_iload_3 dX7_sheet_30 (q := 31) rfl ?_
        refine mh_if_ge dX7_sheet_31 (tgt := 40) (q := 34) rfl rfl (fun c31 => ?_) (fun c31 => ?_)
        · skip
          refine mh_aload_0 dX7_sheet_40 (q := 41) rfl ?_
          refine mh_getR fl_X7_9 dX7_sheet_41 (q := 44) rfl (shX7_0 h7) rfl ?_
          refine mh_iload_1 dX7_sheet_44 (q := 45) rfl ?_
          refine mh_iload_2 dX7_sheet_45 (q := 46) rfl ?_
          refine mh_iast dX7_sheet_46 (q := 47) rfl (shX7_1 h7) (by decide) (mh_sc4 c6) ?_
          refine mh_aload_0 dX7_sheet_47 (q := 48) rfl ?_
          refine mh_getR fl_X7_13 dX7_sheet_48 (q := 51) rfl (shX7_0 h7) rfl ?_
          refine mh_iload_1 dX7_sheet_51 (q := 52) rfl ?_
          refine mh_iload_3 dX7_sheet_52 (q := 53) rfl ?_
          refine mh_iast dX7_sheet_53 (q := 54) rfl (shX7_2 h7) (by decide) (mh_sc4 c6) ?_
          refine mh_iconst_0 dX7_sheet_54 (q := 55) rfl ?_
          refine mh_istore_4 dX7_sheet_55 (q := 57) rfl ?_
          obtain ⟨j, hj, rfl⟩ := mh_scj c6
          have hl := lp_X7_sheet (l := l) (K := K) (kc := mX7_sheet.2.2.2.2.cells) (ks := mX7_sheet.2.2.2.2.slots) h7 hj (so := so) (n := n) (ho j hj rfl (by grind [mhShR, mhShF, mhShOk])) 60 0 rfl
          rw [mhFillR_0] at hl
          exact hl
        · skip
          refine mh_aload_0 dX7_sheet_34 (q := 35) rfl ?_
          refine mh_iconst_4 dX7_sheet_35 (q := 36) rfl ?_
          refine mh_callV1 ca_X7_sheet_36 (shX7_0 h7) (q := 39) rfl (by simp [Value.category]) ⟨Nat.zero_le _, Nat.zero_le _⟩ ?_
          refine sp_X7_fails h7 ?_
          refine mh_ireturn dX7_sheet_39 rfl rfl ?_
          first | exact mh_clF0 (hb (by grind [mhShR, mhShF, mhShOk])) (by grind [mhShR, mhShF, mhShOk]) (by grind [mhShR, mhShF, mhShOk]) | exact mh_clF1 (hb (by grind [mhShR, mhShF, mhShOk])) (by grind [mhShR, mhShF, mhShOk]) (by grind [mhShR, mhShF, mhShOk])
      · skip
        refine mh_bipush (v := (-2)) dX7_sheet_27 (q := 29) rfl (by decide) ?_
        refine mh_ireturn dX7_sheet_29 rfl rfl ?_
        first | exact mh_clF0 (hb (by grind [mhShR, mhShF, mhShOk])) (by grind [mhShR, mhShF, mhShOk]) (by grind [mhShR, mhShF, mhShOk]) | exact mh_clF1 (hb (by grind [mhShR, mhShF, mhShOk])) (by grind [mhShR, mhShF, mhShOk]) (by grind [mhShR, mhShF, mhShOk])
    · skip
      refine mh_if_eq dX7_sheet_18 (tgt := 27) (q := 21) rfl rfl (fun _ => ?_) (fun hh => False.elim (by revert hh; decide))
      refine mh_bipush (v := (-2)) dX7_sheet_27 (q := 29) rfl (by decide) ?_
      refine mh_ireturn dX7_sheet_29 rfl rfl ?_
      first | exact mh_clF0 (hb (by grind [mhShR, mhShF, mhShOk])) (by grind [mhShR, mhShF, mhShOk]) (by grind [mhShR, mhShF, mhShOk]) | exact mh_clF1 (hb (by grind [mhShR, mhShF, mhShOk])) (by grind [mhShR, mhShF, mhShOk]) (by grind [mhShR, mhShF, mhShOk])
  · skip
    refine mh_if_ne dX7_sheet_9 (tgt := 14) (q := 12) rfl rfl (fun hh => False.elim (by revert hh; decide)) (fun _ => ?_)
    refine mh_iconst_m1 dX7_sheet_12 (q := 13) rfl ?_
    refine mh_ireturn dX7_sheet_13 rfl rfl ?_
    first | exact mh_clF0 (hb (by grind [mhShR, mhShF, mhShOk])) (by grind [mhShR, mhShF, mhShOk]) (by grind [mhShR, mhShF, mhShOk]) | exact mh_clF1 (hb (by grind [mhShR, mhShF, mhShOk])) (by grind [mhShR, mhShF, mhShOk]) (by grind [mhShR, mhShF, mhShOk])
set_option maxHeartbeats 4000000 in
set_option maxRecDepth 100000 in
theorem sp_X7_lose {l : Launch} {K : mhX} {Φ : mhQ} {S : List mhS} {F : mhF} {I : mhI} {J : mhJ} {P : mhP} (h7 : mhKX7 S) (hL : mhSm I) {k : Int32} (hn : ¬ mhSc k → Φ (some (.int (-1))) S F I J P) (ho : mhSc k → Φ (some (.int (if I 22 k = -9 then 0 else 1))) S F (mhUI I 22 k (-9)) J P) : mhOk l K mX7_lose [.ref 21, .int k] S F I J P Φ := by
  refine mhOk.of (by decide) (by decide) rfl (Nat.le_of_ble_eq_true rfl) ?_
  refine mh_iload_1 dX7_lose_0 (q := 1) rfl ?_
  refine mh_callS1 ca_X7_lose_1 (q := 4) rfl (by simp [Value.category]) ⟨Nat.zero_le _, Nat.zero_le _⟩ ?_
  refine sp_X7_isSheet (fun c1 => ?_) (fun c1 => ?_)
  · skip
    refine mh_if_ne dX7_lose_4 (tgt := 9) (q := 7) rfl rfl (fun _ => ?_) (fun hh => False.elim (by revert hh; decide))
    refine mh_aload_0 dX7_lose_9 (q := 10) rfl ?_
    refine mh_getR fl_X7_9 dX7_lose_10 (q := 13) rfl (shX7_0 h7) rfl ?_
    refine mh_iload_1 dX7_lose_13 (q := 14) rfl ?_
    refine mh_iald dX7_lose_14 (q := 15) rfl (shX7_1 h7) (mh_sc4 c1) ?_
    refine mh_bipush (v := (-9)) dX7_lose_15 (q := 17) rfl (by decide) ?_
    refine mh_icmp_ne dX7_lose_17 (tgt := 24) (q := 20) rfl rfl (fun c17 => ?_) (fun c17 => ?_)
    · skip
      refine mh_iconst_1 dX7_lose_24 (q := 25) rfl ?_
      refine mh_istore_2 dX7_lose_25 (q := 26) rfl ?_
      refine mh_aload_0 dX7_lose_26 (q := 27) rfl ?_
      refine mh_getR fl_X7_9 dX7_lose_27 (q := 30) rfl (shX7_0 h7) rfl ?_
      refine mh_iload_1 dX7_lose_30 (q := 31) rfl ?_
      refine mh_bipush (v := (-9)) dX7_lose_31 (q := 33) rfl (by decide) ?_
      refine mh_iast dX7_lose_33 (q := 34) rfl (shX7_1 h7) (by decide) (mh_sc4 c1) ?_
      refine mh_iload_2 dX7_lose_34 (q := 35) rfl ?_
      refine mh_ireturn dX7_lose_35 rfl rfl ?_
      exact mh_cl (ho c1) (by grind)
    · skip
      refine mh_iconst_0 dX7_lose_20 (q := 21) rfl ?_
      refine mh_goto dX7_lose_21 (tgt := 25) rfl ?_
      refine mh_istore_2 dX7_lose_25 (q := 26) rfl ?_
      refine mh_aload_0 dX7_lose_26 (q := 27) rfl ?_
      refine mh_getR fl_X7_9 dX7_lose_27 (q := 30) rfl (shX7_0 h7) rfl ?_
      refine mh_iload_1 dX7_lose_30 (q := 31) rfl ?_
      refine mh_bipush (v := (-9)) dX7_lose_31 (q := 33) rfl (by decide) ?_
      refine mh_iast dX7_lose_33 (q := 34) rfl (shX7_1 h7) (by decide) (mh_sc4 c1) ?_
      refine mh_iload_2 dX7_lose_34 (q := 35) rfl ?_
      refine mh_ireturn dX7_lose_35 rfl rfl ?_
      exact mh_cl (ho c1) (by grind)
  · skip
    refine mh_if_ne dX7_lose_4 (tgt := 9) (q := 7) rfl rfl (fun hh => False.elim (by revert hh; decide)) (fun _ => ?_)
    refine mh_iconst_m1 dX7_lose_7 (q := 8) rfl ?_
    refine mh_ireturn dX7_lose_8 rfl rfl ?_
    exact hn c1
set_option maxHeartbeats 4000000 in
set_option maxRecDepth 100000 in
theorem sp_X7_put {l : Launch} {K : mhX} {Φ : mhQ} {S : List mhS} {F : mhF} {I : mhI} {J : mhJ} {P : mhP} (h7 : mhKX7 S) (hL : mhSm I) {k i v : Int32} (hn : ¬ mhSc k → Φ (some (.int (-1))) S (mhUF F 21 0 0) I J P) (hb : mhSc k → ¬ mhPuOk (I 22 k) (I 23 k) i → Φ (some (.int (mhPuR (I 22 k) (I 23 k) i))) S (mhUF F 21 0 (mhPuF (I 22 k) (I 23 k) i)) I J P) (ho : mhSc k → mhPuOk (I 22 k) (I 23 k) i → Φ (some (.int 1)) S (mhUF F 21 0 0) (mhUI I 24 (60 * k + i) (mhCut (I 22 k) v)) J P) : mhOk l K mX7_put [.ref 21, .int k, .int i, .int v] S F I J P Φ := by
  refine mhOk.of (by decide) (by decide) rfl (Nat.le_of_ble_eq_true rfl) ?_
  refine mh_aload_0 dX7_put_0 (q := 1) rfl ?_
  refine mh_iconst_0 dX7_put_1 (q := 2) rfl ?_
  refine mh_putI (Or.inl fw_X7_102) rfl rfl dX7_put_2 (q := 5) rfl (shX7_0 h7) rfl ?_
  refine mh_iload_1 dX7_put_5 (q := 6) rfl ?_
  refine mh_callS1 ca_X7_put_6 (q := 9) rfl (by simp [Value.category]) ⟨Nat.zero_le _, Nat.zero_le _⟩ ?_
  refine sp_X7_isSheet (fun c6 => ?_) (fun c6 => ?_)
  · skip
    refine mh_if_ne dX7_put_9 (tgt := 14) (q := 12) rfl rfl (fun _ => ?_) (fun hh => False.elim (by revert hh; decide))
    refine mh_aload_0 dX7_put_14 (q := 15) rfl ?_
    refine mh_getR fl_X7_9 dX7_put_15 (q := 18) rfl (shX7_0 h7) rfl ?_
    refine mh_iload_1 dX7_put_18 (q := 19) rfl ?_
    refine mh_iald dX7_put_19 (q := 20) rfl (shX7_1 h7) (mh_sc4 c6) ?_
    refine mh_bipush (v := (-9)) dX7_put_20 (q := 22) rfl (by decide) ?_
    refine mh_icmp_ne dX7_put_22 (tgt := 31) (q := 25) rfl rfl (fun c22 => ?_) (fun c22 => ?_)
    · skip
      refine mh_iload_2 dX7_put_31 (q := 32) rfl ?_
      refine mh_iconst_0 dX7_put_32 (q := 33) rfl ?_
      refine mh_aload_0 dX7_put_33 (q := 34) rfl ?_
      refine mh_getR fl_X7_13 dX7_put_34 (q := 37) rfl (shX7_0 h7) rfl ?_
      refine mh_iload_1 dX7_put_37 (q := 38) rfl ?_
      refine mh_iald dX7_put_38 (q := 39) rfl (shX7_2 h7) (mh_sc4 c6) ?_
      refine mh_iconst_1 dX7_put_39 (q := 40) rfl ?_
      refine mh_isub dX7_put_40 (q := 41) rfl ?_
      refine mh_callS3 ca_X7_put_41 (q := 44) rfl (by simp [Value.category]) ⟨Nat.zero_le _, Nat.zero_le _⟩ ?_
      refine sp_X7_within (fun c41 => ?_) (fun c41 => ?_)
      · skip
        refine mh_if_ne dX7_put_44 (tgt := 53) (q := 47) rfl rfl (fun _ => ?_) (fun hh => False.elim (by revert hh; decide))
        refine mh_aload_0 dX7_put_53 (q := 54) rfl ?_
        refine mh_getR fl_X7_16 dX7_put_54 (q := 57) rfl (shX7_0 h7) rfl ?_
        refine mh_bipush (v := 60) dX7_put_57 (q := 59) rfl (by decide) ?_
        refine mh_iload_1 dX7_put_59 (q := 60) rfl ?_
        refine mh_imul dX7_put_60 (q := 61) rfl ?_
        refine mh_iload_2 dX7_put_61 (q := 62) rfl ?_
        refine mh_iadd dX7_put_62 (q := 63) rfl ?_
        refine mh_aload_0 dX7_put_63 (q := 64) rfl ?_
        refine mh_getR fl_X7_9 dX7_put_64 (q := 67) rfl (shX7_0 h7) rfl ?_
        refine mh_iload_1 dX7_put_67 (q := 68) rfl ?_
        refine mh_iald dX7_put_68 (q := 69) rfl (shX7_1 h7) (mh_sc4 c6) ?_
        refine mh_if_ne dX7_put_69 (tgt := 77) (q := 72) rfl rfl (fun c69 => ?_) (fun c69 => ?_)
        · skip
          refine mh_aload_0 dX7_put_77 (q := 78) rfl ?_
          refine mh_getR fl_X7_9 dX7_put_78 (q := 81) rfl (shX7_0 h7) rfl ?_
          refine mh_iload_1 dX7_put_81 (q := 82) rfl ?_
          refine mh_iald dX7_put_82 (q := 83) rfl (shX7_1 h7) (mh_sc4 c6) ?_
          refine mh_iconst_1 dX7_put_83 (q := 84) rfl ?_
          refine mh_icmp_ne dX7_put_84 (tgt := 92) (q := 87) rfl rfl (fun c84 => ?_) (fun c84 => ?_)
          · skip
            refine mh_iload_3 dX7_put_92 (q := 93) rfl ?_
            obtain ⟨j, hj, ej⟩ := mh_scj c6
            have q0 := (hL j hj).1
            have q1 := (hL j hj).2
            rw [← ej] at q0 q1
            refine mh_iast dX7_put_93 (q := 94) rfl (shX7_3 h7) (by decide) (mh_in240 c6 c41.1 (by grind)) ?_
            refine mh_iconst_1 dX7_put_94 (q := 95) rfl ?_
            refine mh_ireturn dX7_put_95 rfl rfl ?_
            have h9 := ho c6 (by grind [mhPuOk])
            first | (rw [show mhCut (I 22 k) v = v.toInt8.toInt32 by grind [mhCut]] at h9; exact h9) | (rw [show mhCut (I 22 k) v = v.toInt16.toInt32 by grind [mhCut]] at h9; exact h9) | (rw [show mhCut (I 22 k) v = v by grind [mhCut]] at h9; exact h9)
          · skip
            refine mh_iload_3 dX7_put_87 (q := 88) rfl ?_
            refine mh_i2s dX7_put_88 (q := 89) rfl ?_
            refine mh_goto dX7_put_89 (tgt := 93) rfl ?_
            obtain ⟨j, hj, ej⟩ := mh_scj c6
            have q0 := (hL j hj).1
            have q1 := (hL j hj).2
            rw [← ej] at q0 q1
            refine mh_iast dX7_put_93 (q := 94) rfl (shX7_3 h7) (by decide) (mh_in240 c6 c41.1 (by grind)) ?_
            refine mh_iconst_1 dX7_put_94 (q := 95) rfl ?_
            refine mh_ireturn dX7_put_95 rfl rfl ?_
            have h9 := ho c6 (by grind [mhPuOk])
            first | (rw [show mhCut (I 22 k) v = v.toInt8.toInt32 by grind [mhCut]] at h9; exact h9) | (rw [show mhCut (I 22 k) v = v.toInt16.toInt32 by grind [mhCut]] at h9; exact h9) | (rw [show mhCut (I 22 k) v = v by grind [mhCut]] at h9; exact h9)
        · skip
          refine mh_iload_3 dX7_put_72 (q := 73) rfl ?_
          refine mh_i2b dX7_put_73 (q := 74) rfl ?_
          refine mh_goto dX7_put_74 (tgt := 93) rfl ?_
          obtain ⟨j, hj, ej⟩ := mh_scj c6
          have q0 := (hL j hj).1
          have q1 := (hL j hj).2
          rw [← ej] at q0 q1
          refine mh_iast dX7_put_93 (q := 94) rfl (shX7_3 h7) (by decide) (mh_in240 c6 c41.1 (by grind)) ?_
          refine mh_iconst_1 dX7_put_94 (q := 95) rfl ?_
          refine mh_ireturn dX7_put_95 rfl rfl ?_
          have h9 := ho c6 (by grind [mhPuOk])
          first | (rw [show mhCut (I 22 k) v = v.toInt8.toInt32 by grind [mhCut]] at h9; exact h9) | (rw [show mhCut (I 22 k) v = v.toInt16.toInt32 by grind [mhCut]] at h9; exact h9) | (rw [show mhCut (I 22 k) v = v by grind [mhCut]] at h9; exact h9)
      · skip
        refine mh_if_ne dX7_put_44 (tgt := 53) (q := 47) rfl rfl (fun hh => False.elim (by revert hh; decide)) (fun _ => ?_)
        refine mh_aload_0 dX7_put_47 (q := 48) rfl ?_
        refine mh_iconst_3 dX7_put_48 (q := 49) rfl ?_
        refine mh_callV1 ca_X7_put_49 (shX7_0 h7) (q := 52) rfl (by simp [Value.category]) ⟨Nat.zero_le _, Nat.zero_le _⟩ ?_
        refine sp_X7_fails h7 ?_
        refine mh_ireturn dX7_put_52 rfl rfl ?_
        first | exact mh_clF0 (hb c6 (by grind [mhUF, mhPuR, mhPuF, mhPuOk])) (by grind [mhUF, mhPuR, mhPuF, mhPuOk]) (by grind [mhUF, mhPuR, mhPuF, mhPuOk]) | exact mh_clF1 (hb c6 (by grind [mhUF, mhPuR, mhPuF, mhPuOk])) (by grind [mhUF, mhPuR, mhPuF, mhPuOk]) (by grind [mhUF, mhPuR, mhPuF, mhPuOk])
    · skip
      refine mh_aload_0 dX7_put_25 (q := 26) rfl ?_
      refine mh_iconst_1 dX7_put_26 (q := 27) rfl ?_
      refine mh_callV1 ca_X7_put_27 (shX7_0 h7) (q := 30) rfl (by simp [Value.category]) ⟨Nat.zero_le _, Nat.zero_le _⟩ ?_
      refine sp_X7_fails h7 ?_
      refine mh_ireturn dX7_put_30 rfl rfl ?_
      first | exact mh_clF0 (hb c6 (by grind [mhUF, mhPuR, mhPuF, mhPuOk])) (by grind [mhUF, mhPuR, mhPuF, mhPuOk]) (by grind [mhUF, mhPuR, mhPuF, mhPuOk]) | exact mh_clF1 (hb c6 (by grind [mhUF, mhPuR, mhPuF, mhPuOk])) (by grind [mhUF, mhPuR, mhPuF, mhPuOk]) (by grind [mhUF, mhPuR, mhPuF, mhPuOk])
  · skip
    refine mh_if_ne dX7_put_9 (tgt := 14) (q := 12) rfl rfl (fun hh => False.elim (by revert hh; decide)) (fun _ => ?_)
    refine mh_iconst_m1 dX7_put_12 (q := 13) rfl ?_
    refine mh_ireturn dX7_put_13 rfl rfl ?_
    exact hn c6
set_option maxHeartbeats 4000000 in
set_option maxRecDepth 100000 in
theorem sp_X7_cell {l : Launch} {K : mhX} {Φ : mhQ} {S : List mhS} {F : mhF} {I : mhI} {J : mhJ} {P : mhP} (h7 : mhKX7 S) (hL : mhSm I) {k i so : Int32} (hn : ¬ (mhSc k ∧ mhSo so) → Φ (some (.long (-9223372036854775808))) S (mhUF F 21 0 0) I J P) (hb : mhSc k → mhSo so → Φ (some (.long (mhCeR (I 22 k) (I 23 k) so i (I 24 (60 * k + i))))) S (mhUF F 21 0 (mhCeF (I 22 k) (I 23 k) so i)) I J P) : mhOk l K mX7_cell [.ref 21, .int k, .int i, .int so] S F I J P Φ := by
  refine mhOk.of (by decide) (by decide) rfl (Nat.le_of_ble_eq_true rfl) ?_
  refine mh_aload_0 dX7_cell_0 (q := 1) rfl ?_
  refine mh_iconst_0 dX7_cell_1 (q := 2) rfl ?_
  refine mh_putI (Or.inl fw_X7_102) rfl rfl dX7_cell_2 (q := 5) rfl (shX7_0 h7) rfl ?_
  refine mh_iload_1 dX7_cell_5 (q := 6) rfl ?_
  refine mh_callS1 ca_X7_cell_6 (q := 9) rfl (by simp [Value.category]) ⟨Nat.zero_le _, Nat.zero_le _⟩ ?_
  refine sp_X7_isSheet (fun c6 => ?_) (fun c6 => ?_)
  · skip
    refine mh_if_eq dX7_cell_9 (tgt := 19) (q := 12) rfl rfl (fun hh => False.elim (by revert hh; decide)) (fun _ => ?_)
    refine mh_iload_3 dX7_cell_12 (q := 13) rfl ?_
    refine mh_callS1 ca_X7_cell_13 (q := 16) rfl (by simp [Value.category]) ⟨Nat.zero_le _, Nat.zero_le _⟩ ?_
    refine sp_X7_isSort (fun c13 => ?_) (fun c13 => ?_)
    · skip
      refine mh_if_ne dX7_cell_16 (tgt := 23) (q := 19) rfl rfl (fun _ => ?_) (fun hh => False.elim (by revert hh; decide))
      refine mh_aload_0 dX7_cell_23 (q := 24) rfl ?_
      refine mh_getR fl_X7_9 dX7_cell_24 (q := 27) rfl (shX7_0 h7) rfl ?_
      refine mh_iload_1 dX7_cell_27 (q := 28) rfl ?_
      refine mh_iald dX7_cell_28 (q := 29) rfl (shX7_1 h7) (mh_sc4 c6) ?_
      refine mh_bipush (v := (-9)) dX7_cell_29 (q := 31) rfl (by decide) ?_
      refine mh_icmp_eq dX7_cell_31 (tgt := 50) (q := 34) rfl rfl (fun c31 => ?_) (fun c31 => ?_)
      · skip
        refine mh_aload_0 dX7_cell_50 (q := 51) rfl ?_
        refine mh_getR fl_X7_9 dX7_cell_51 (q := 54) rfl (shX7_0 h7) rfl ?_
        refine mh_iload_1 dX7_cell_54 (q := 55) rfl ?_
        refine mh_iald dX7_cell_55 (q := 56) rfl (shX7_1 h7) (mh_sc4 c6) ?_
        refine mh_bipush (v := (-9)) dX7_cell_56 (q := 58) rfl (by decide) ?_
        refine mh_icmp_ne dX7_cell_58 (tgt := 67) (q := 61) rfl rfl (fun c58 => ?_) (fun c58 => ?_)
        · skip
          refine mh_iload_2 dX7_cell_67 (q := 68) rfl ?_
          refine mh_iconst_0 dX7_cell_68 (q := 69) rfl ?_
          refine mh_aload_0 dX7_cell_69 (q := 70) rfl ?_
          refine mh_getR fl_X7_13 dX7_cell_70 (q := 73) rfl (shX7_0 h7) rfl ?_
          refine mh_iload_1 dX7_cell_73 (q := 74) rfl ?_
          refine mh_iald dX7_cell_74 (q := 75) rfl (shX7_2 h7) (mh_sc4 c6) ?_
          refine mh_iconst_1 dX7_cell_75 (q := 76) rfl ?_
          refine mh_isub dX7_cell_76 (q := 77) rfl ?_
          refine mh_callS3 ca_X7_cell_77 (q := 80) rfl (by simp [Value.category]) ⟨Nat.zero_le _, Nat.zero_le _⟩ ?_
          refine sp_X7_within (fun c77 => ?_) (fun c77 => ?_)
          · skip
            refine mh_if_ne dX7_cell_80 (tgt := 89) (q := 83) rfl rfl (fun _ => ?_) (fun hh => False.elim (by revert hh; decide))
            refine mh_aload_0 dX7_cell_89 (q := 90) rfl ?_
            refine mh_getR fl_X7_16 dX7_cell_90 (q := 93) rfl (shX7_0 h7) rfl ?_
            refine mh_bipush (v := 60) dX7_cell_93 (q := 95) rfl (by decide) ?_
            refine mh_iload_1 dX7_cell_95 (q := 96) rfl ?_
            refine mh_imul dX7_cell_96 (q := 97) rfl ?_
            refine mh_iload_2 dX7_cell_97 (q := 98) rfl ?_
            refine mh_iadd dX7_cell_98 (q := 99) rfl ?_
            obtain ⟨j, hj, ej⟩ := mh_scj c6
            have q0 := (hL j hj).1
            have q1 := (hL j hj).2
            rw [← ej] at q0 q1
            refine mh_iald dX7_cell_99 (q := 100) rfl (shX7_3 h7) (mh_in240 c6 c77.1 (by grind)) ?_
            refine mh_i2l dX7_cell_100 (q := 101) rfl ?_
            refine mh_lreturn dX7_cell_101 rfl ?_
            first | exact mh_clL0 (hb c6 c13) (by grind [mhUF, mhCeR, mhCeF]) (by grind [mhUF, mhCeR, mhCeF]) | exact mh_clL1 (hb c6 c13) (by grind [mhUF, mhCeR, mhCeF]) (by grind [mhUF, mhCeR, mhCeF])
          · skip
            refine mh_if_ne dX7_cell_80 (tgt := 89) (q := 83) rfl rfl (fun hh => False.elim (by revert hh; decide)) (fun _ => ?_)
            refine mh_aload_0 dX7_cell_83 (q := 84) rfl ?_
            refine mh_iconst_3 dX7_cell_84 (q := 85) rfl ?_
            refine mh_callV1 ca_X7_cell_85 (shX7_0 h7) (q := 88) rfl (by simp [Value.category]) ⟨Nat.zero_le _, Nat.zero_le _⟩ ?_
            refine sp_X7_lost h7 ?_
            refine mh_lreturn dX7_cell_88 rfl ?_
            first | exact mh_clL0 (hb c6 c13) (by grind [mhUF, mhCeR, mhCeF]) (by grind [mhUF, mhCeR, mhCeF]) | exact mh_clL1 (hb c6 c13) (by grind [mhUF, mhCeR, mhCeF]) (by grind [mhUF, mhCeR, mhCeF])
        · skip
          refine mh_aload_0 dX7_cell_61 (q := 62) rfl ?_
          refine mh_iconst_1 dX7_cell_62 (q := 63) rfl ?_
          refine mh_callV1 ca_X7_cell_63 (shX7_0 h7) (q := 66) rfl (by simp [Value.category]) ⟨Nat.zero_le _, Nat.zero_le _⟩ ?_
          refine sp_X7_lost h7 ?_
          refine mh_lreturn dX7_cell_66 rfl ?_
          first | exact mh_clL0 (hb c6 c13) (by grind [mhUF, mhCeR, mhCeF]) (by grind [mhUF, mhCeR, mhCeF]) | exact mh_clL1 (hb c6 c13) (by grind [mhUF, mhCeR, mhCeF]) (by grind [mhUF, mhCeR, mhCeF])
      · skip
        refine mh_aload_0 dX7_cell_34 (q := 35) rfl ?_
        refine mh_getR fl_X7_9 dX7_cell_35 (q := 38) rfl (shX7_0 h7) rfl ?_
        refine mh_iload_1 dX7_cell_38 (q := 39) rfl ?_
        refine mh_iald dX7_cell_39 (q := 40) rfl (shX7_1 h7) (mh_sc4 c6) ?_
        refine mh_iload_3 dX7_cell_40 (q := 41) rfl ?_
        refine mh_icmp_eq dX7_cell_41 (tgt := 50) (q := 44) rfl rfl (fun c41 => ?_) (fun c41 => ?_)
        · skip
          refine mh_aload_0 dX7_cell_50 (q := 51) rfl ?_
          refine mh_getR fl_X7_9 dX7_cell_51 (q := 54) rfl (shX7_0 h7) rfl ?_
          refine mh_iload_1 dX7_cell_54 (q := 55) rfl ?_
          refine mh_iald dX7_cell_55 (q := 56) rfl (shX7_1 h7) (mh_sc4 c6) ?_
          refine mh_bipush (v := (-9)) dX7_cell_56 (q := 58) rfl (by decide) ?_
          refine mh_icmp_ne dX7_cell_58 (tgt := 67) (q := 61) rfl rfl (fun c58 => ?_) (fun c58 => ?_)
          · skip
            refine mh_iload_2 dX7_cell_67 (q := 68) rfl ?_
            refine mh_iconst_0 dX7_cell_68 (q := 69) rfl ?_
            refine mh_aload_0 dX7_cell_69 (q := 70) rfl ?_
            refine mh_getR fl_X7_13 dX7_cell_70 (q := 73) rfl (shX7_0 h7) rfl ?_
            refine mh_iload_1 dX7_cell_73 (q := 74) rfl ?_
            refine mh_iald dX7_cell_74 (q := 75) rfl (shX7_2 h7) (mh_sc4 c6) ?_
            refine mh_iconst_1 dX7_cell_75 (q := 76) rfl ?_
            refine mh_isub dX7_cell_76 (q := 77) rfl ?_
            refine mh_callS3 ca_X7_cell_77 (q := 80) rfl (by simp [Value.category]) ⟨Nat.zero_le _, Nat.zero_le _⟩ ?_
            refine sp_X7_within (fun c77 => ?_) (fun c77 => ?_)
            · skip
              refine mh_if_ne dX7_cell_80 (tgt := 89) (q := 83) rfl rfl (fun _ => ?_) (fun hh => False.elim (by revert hh; decide))
              refine mh_aload_0 dX7_cell_89 (q := 90) rfl ?_
              refine mh_getR fl_X7_16 dX7_cell_90 (q := 93) rfl (shX7_0 h7) rfl ?_
              refine mh_bipush (v := 60) dX7_cell_93 (q := 95) rfl (by decide) ?_
              refine mh_iload_1 dX7_cell_95 (q := 96) rfl ?_
              refine mh_imul dX7_cell_96 (q := 97) rfl ?_
              refine mh_iload_2 dX7_cell_97 (q := 98) rfl ?_
              refine mh_iadd dX7_cell_98 (q := 99) rfl ?_
              obtain ⟨j, hj, ej⟩ := mh_scj c6
              have q0 := (hL j hj).1
              have q1 := (hL j hj).2
              rw [← ej] at q0 q1
              refine mh_iald dX7_cell_99 (q := 100) rfl (shX7_3 h7) (mh_in240 c6 c77.1 (by grind)) ?_
              refine mh_i2l dX7_cell_100 (q := 101) rfl ?_
              refine mh_lreturn dX7_cell_101 rfl ?_
              first | exact mh_clL0 (hb c6 c13) (by grind [mhUF, mhCeR, mhCeF]) (by grind [mhUF, mhCeR, mhCeF]) | exact mh_clL1 (hb c6 c13) (by grind [mhUF, mhCeR, mhCeF]) (by grind [mhUF, mhCeR, mhCeF])
            · skip
              refine mh_if_ne dX7_cell_80 (tgt := 89) (q := 83) rfl rfl (fun hh => False.elim (by revert hh; decide)) (fun _ => ?_)
              refine mh_aload_0 dX7_cell_83 (q := 84) rfl ?_
              refine mh_iconst_3 dX7_cell_84 (q := 85) rfl ?_
              refine mh_callV1 ca_X7_cell_85 (shX7_0 h7) (q := 88) rfl (by simp [Value.category]) ⟨Nat.zero_le _, Nat.zero_le _⟩ ?_
              refine sp_X7_lost h7 ?_
              refine mh_lreturn dX7_cell_88 rfl ?_
              first | exact mh_clL0 (hb c6 c13) (by grind [mhUF, mhCeR, mhCeF]) (by grind [mhUF, mhCeR, mhCeF]) | exact mh_clL1 (hb c6 c13) (by grind [mhUF, mhCeR, mhCeF]) (by grind [mhUF, mhCeR, mhCeF])
          · skip
            refine mh_aload_0 dX7_cell_61 (q := 62) rfl ?_
            refine mh_iconst_1 dX7_cell_62 (q := 63) rfl ?_
            refine mh_callV1 ca_X7_cell_63 (shX7_0 h7) (q := 66) rfl (by simp [Value.category]) ⟨Nat.zero_le _, Nat.zero_le _⟩ ?_
            refine sp_X7_lost h7 ?_
            refine mh_lreturn dX7_cell_66 rfl ?_
            first | exact mh_clL0 (hb c6 c13) (by grind [mhUF, mhCeR, mhCeF]) (by grind [mhUF, mhCeR, mhCeF]) | exact mh_clL1 (hb c6 c13) (by grind [mhUF, mhCeR, mhCeF]) (by grind [mhUF, mhCeR, mhCeF])
        · skip
          refine mh_aload_0 dX7_cell_44 (q := 45) rfl ?_
          refine mh_iconst_2 dX7_cell_45 (q := 46) rfl ?_
          refine mh_callV1 ca_X7_cell_46 (shX7_0 h7) (q := 49) rfl (by simp [Value.category]) ⟨Nat.zero_le _, Nat.zero_le _⟩ ?_
          refine sp_X7_lost h7 ?_
          refine mh_lreturn dX7_cell_49 rfl ?_
          first | exact mh_clL0 (hb c6 c13) (by grind [mhUF, mhCeR, mhCeF]) (by grind [mhUF, mhCeR, mhCeF]) | exact mh_clL1 (hb c6 c13) (by grind [mhUF, mhCeR, mhCeF]) (by grind [mhUF, mhCeR, mhCeF])
    · skip
      refine mh_if_ne dX7_cell_16 (tgt := 23) (q := 19) rfl rfl (fun hh => False.elim (by revert hh; decide)) (fun _ => ?_)
      refine mh_ldc2_w dX7_cell_19 (q := 22) rfl wd_1181 ?_
      refine mh_lreturn dX7_cell_22 rfl ?_
      exact hn (by grind)
  · skip
    refine mh_if_eq dX7_cell_9 (tgt := 19) (q := 12) rfl rfl (fun _ => ?_) (fun hh => False.elim (by revert hh; decide))
    refine mh_ldc2_w dX7_cell_19 (q := 22) rfl wd_1181 ?_
    refine mh_lreturn dX7_cell_22 rfl ?_
    exact hn (by grind)
set_option maxHeartbeats 4000000 in
set_option maxRecDepth 100000 in
theorem lp_X7_copyA {l : Launch} {K : mhX} {kc ks : Nat} {Φ : mhQ} {S : List mhS} {F : mhF} {I : mhI} {J : mhJ} {P : mhP} (h7 : mhKX7 S) {a b i j n : Nat} (ha : a < 4) (hb : b < 4) (hi : i + n ≤ 60) (hj : j + n ≤ 60) (hr : 60 * a + i < 60 * b + j ∨ 60 * b + j + n ≤ 60 * a + i) {o6 : Option Value} (ho : Φ (some (.int (nI n))) S F (mhCp I 24 (60 * a + i) 24 (60 * b + j) n) J P) : ∀ (m q : Nat) (o9 : Option Value), q + m = n → mhV l K mX7_copy kc ks Φ 166 [some (.ref 21), some (.int (nI a)), some (.int (nI i)), some (.int (nI b)), some (.int (nI j)), some (.int (nI n)), o6, some (.int 1), some (.int (nI q)), o9] [] S F (mhCp I 24 (60 * a + i + (n - q)) 24 (60 * b + j + (n - q)) q) J P := by
  intro m
  induction m with
  | zero =>
    intro q o9 hq
    obtain rfl : q = n := by omega
    rw [Nat.sub_self, Nat.add_zero, Nat.add_zero]
    refine mh_iload_8 dX7_copy_166 (q := 168) rfl ?_
    refine mh_iload_5 dX7_copy_168 (q := 170) rfl ?_
    refine mh_icmp_ge dX7_copy_170 (tgt := 227) (q := 173) rfl rfl (fun _ => ?_) (fun hh => absurd (nI_le (Nat.le_refl _) (by omega)) hh)
    refine mh_iload_5 dX7_copy_227 (q := 229) rfl ?_
    refine mh_ireturn dX7_copy_229 rfl rfl ?_
    exact ho
  | succ m ih =>
    intro q o9 hq
    refine mh_iload_8 dX7_copy_166 (q := 168) rfl ?_
    refine mh_iload_5 dX7_copy_168 (q := 170) rfl ?_
    refine mh_icmp_ge dX7_copy_170 (tgt := 227) (q := 173) rfl rfl (fun hh => absurd hh (nI_ge (by omega) (by omega))) (fun _ => ?_)
    refine mh_iload_7 dX7_copy_173 (q := 175) rfl ?_
    refine mh_if_eq dX7_copy_175 (tgt := 188) (q := 178) rfl rfl (fun hh => False.elim (by revert hh; decide)) (fun _ => ?_)
    refine mh_iload_5 dX7_copy_178 (q := 180) rfl ?_
    refine mh_iconst_1 dX7_copy_180 (q := 181) rfl ?_
    refine mh_isub dX7_copy_181 (q := 182) rfl ?_
    refine mh_iload_8 dX7_copy_182 (q := 184) rfl ?_
    refine mh_isub dX7_copy_184 (q := 185) rfl ?_
    refine mh_goto dX7_copy_185 (tgt := 190) rfl ?_
    rw [show (nI n - 1 - nI q : Int32) = nI (n - 1 - q) by rw [show (1 : Int32) = nI 1 from rfl, pk_sub (by omega), pk_sub (by omega)]]
    refine mh_istore_9 dX7_copy_190 (q := 192) rfl ?_
    refine mh_aload_0 dX7_copy_192 (q := 193) rfl ?_
    refine mh_getR fl_X7_16 dX7_copy_193 (q := 196) rfl (shX7_0 h7) rfl ?_
    refine mh_bipush (v := 60) dX7_copy_196 (q := 198) rfl (by decide) ?_
    refine mh_iload_3 dX7_copy_198 (q := 199) rfl ?_
    refine mh_imul dX7_copy_199 (q := 200) rfl ?_
    refine mh_iload_4 dX7_copy_200 (q := 202) rfl ?_
    refine mh_iadd dX7_copy_202 (q := 203) rfl ?_
    refine mh_iload_9 dX7_copy_203 (q := 205) rfl ?_
    refine mh_iadd dX7_copy_205 (q := 206) rfl ?_
    refine mh_aload_0 dX7_copy_206 (q := 207) rfl ?_
    refine mh_getR fl_X7_16 dX7_copy_207 (q := 210) rfl (shX7_0 h7) rfl ?_
    refine mh_bipush (v := 60) dX7_copy_210 (q := 212) rfl (by decide) ?_
    refine mh_iload_1 dX7_copy_212 (q := 213) rfl ?_
    refine mh_imul dX7_copy_213 (q := 214) rfl ?_
    refine mh_iload_2 dX7_copy_214 (q := 215) rfl ?_
    refine mh_iadd dX7_copy_215 (q := 216) rfl ?_
    refine mh_iload_9 dX7_copy_216 (q := 218) rfl ?_
    refine mh_iadd dX7_copy_218 (q := 219) rfl ?_
    rw [mh_e60, mh_e60, nI_add, nI_add]
    refine mh_iald dX7_copy_219 (q := 220) rfl (shX7_3 h7) (vp_in_nI (by omega) (by decide)) ?_
    refine mh_iast dX7_copy_220 (q := 221) rfl (shX7_3 h7) (by decide) (vp_in_nI (by omega) (by decide)) ?_
    refine mh_iinc_8 (v := 1) dX7_copy_221 (q := 224) rfl (by decide) ?_
    refine mh_goto dX7_copy_224 (tgt := 166) rfl ?_
    rw [mhCp_sA (by omega) (by omega) (by omega) hr, nI_1]
    exact ih (q + 1) _ (by omega)
set_option maxHeartbeats 4000000 in
set_option maxRecDepth 100000 in
theorem lp_X7_copyB {l : Launch} {K : mhX} {kc ks : Nat} {Φ : mhQ} {S : List mhS} {F : mhF} {I : mhI} {J : mhJ} {P : mhP} (h7 : mhKX7 S) {a b i j n : Nat} (ha : a < 4) (hb : b < 4) (hi : i + n ≤ 60) (hj : j + n ≤ 60) (hr : 60 * b + j ≤ 60 * a + i ∨ 60 * a + i + n ≤ 60 * b + j) {o6 : Option Value} (ho : Φ (some (.int (nI n))) S F (mhCp I 24 (60 * a + i) 24 (60 * b + j) n) J P) : ∀ (m q : Nat) (o9 : Option Value), q + m = n → mhV l K mX7_copy kc ks Φ 166 [some (.ref 21), some (.int (nI a)), some (.int (nI i)), some (.int (nI b)), some (.int (nI j)), some (.int (nI n)), o6, some (.int 0), some (.int (nI q)), o9] [] S F (mhCp I 24 (60 * a + i) 24 (60 * b + j) q) J P := by
  intro m
  induction m with
  | zero =>
    intro q o9 hq
    obtain rfl : q = n := by omega
    refine mh_iload_8 dX7_copy_166 (q := 168) rfl ?_
    refine mh_iload_5 dX7_copy_168 (q := 170) rfl ?_
    refine mh_icmp_ge dX7_copy_170 (tgt := 227) (q := 173) rfl rfl (fun _ => ?_) (fun hh => absurd (nI_le (Nat.le_refl _) (by omega)) hh)
    refine mh_iload_5 dX7_copy_227 (q := 229) rfl ?_
    refine mh_ireturn dX7_copy_229 rfl rfl ?_
    exact ho
  | succ m ih =>
    intro q o9 hq
    refine mh_iload_8 dX7_copy_166 (q := 168) rfl ?_
    refine mh_iload_5 dX7_copy_168 (q := 170) rfl ?_
    refine mh_icmp_ge dX7_copy_170 (tgt := 227) (q := 173) rfl rfl (fun hh => absurd hh (nI_ge (by omega) (by omega))) (fun _ => ?_)
    refine mh_iload_7 dX7_copy_173 (q := 175) rfl ?_
    refine mh_if_eq dX7_copy_175 (tgt := 188) (q := 178) rfl rfl (fun _ => ?_) (fun hh => False.elim (by revert hh; decide))
    refine mh_iload_8 dX7_copy_188 (q := 190) rfl ?_
    skip
    refine mh_istore_9 dX7_copy_190 (q := 192) rfl ?_
    refine mh_aload_0 dX7_copy_192 (q := 193) rfl ?_
    refine mh_getR fl_X7_16 dX7_copy_193 (q := 196) rfl (shX7_0 h7) rfl ?_
    refine mh_bipush (v := 60) dX7_copy_196 (q := 198) rfl (by decide) ?_
    refine mh_iload_3 dX7_copy_198 (q := 199) rfl ?_
    refine mh_imul dX7_copy_199 (q := 200) rfl ?_
    refine mh_iload_4 dX7_copy_200 (q := 202) rfl ?_
    refine mh_iadd dX7_copy_202 (q := 203) rfl ?_
    refine mh_iload_9 dX7_copy_203 (q := 205) rfl ?_
    refine mh_iadd dX7_copy_205 (q := 206) rfl ?_
    refine mh_aload_0 dX7_copy_206 (q := 207) rfl ?_
    refine mh_getR fl_X7_16 dX7_copy_207 (q := 210) rfl (shX7_0 h7) rfl ?_
    refine mh_bipush (v := 60) dX7_copy_210 (q := 212) rfl (by decide) ?_
    refine mh_iload_1 dX7_copy_212 (q := 213) rfl ?_
    refine mh_imul dX7_copy_213 (q := 214) rfl ?_
    refine mh_iload_2 dX7_copy_214 (q := 215) rfl ?_
    refine mh_iadd dX7_copy_215 (q := 216) rfl ?_
    refine mh_iload_9 dX7_copy_216 (q := 218) rfl ?_
    refine mh_iadd dX7_copy_218 (q := 219) rfl ?_
    rw [mh_e60, mh_e60, nI_add, nI_add]
    refine mh_iald dX7_copy_219 (q := 220) rfl (shX7_3 h7) (vp_in_nI (by omega) (by decide)) ?_
    refine mh_iast dX7_copy_220 (q := 221) rfl (shX7_3 h7) (by decide) (vp_in_nI (by omega) (by decide)) ?_
    refine mh_iinc_8 (v := 1) dX7_copy_221 (q := 224) rfl (by decide) ?_
    refine mh_goto dX7_copy_224 (tgt := 166) rfl ?_
    rw [mhCp_sB (by omega) (by omega) (by omega) hr, nI_1]
    exact ih (q + 1) _ (by omega)
set_option maxHeartbeats 4000000 in
set_option maxRecDepth 100000 in
theorem sp_X7_copy {l : Launch} {K : mhX} {Φ : mhQ} {S : List mhS} {F : mhF} {I : mhI} {J : mhJ} {P : mhP} (h7 : mhKX7 S) (hL : mhSm I) {k i k2 i2 n : Int32} (hn : ¬ (mhSc k ∧ mhSc k2) → Φ (some (.int (-1))) S (mhUF F 21 0 0) I J P) (hb : mhSc k → mhSc k2 → ¬ mhCoF (I 22 k) (I 23 k) (I 22 k2) (I 23 k2) i i2 n = 0 → Φ (some (.int (mhCoR (I 22 k) (I 23 k) (I 22 k2) (I 23 k2) i i2 n))) S (mhUF F 21 0 (mhCoF (I 22 k) (I 23 k) (I 22 k2) (I 23 k2) i i2 n)) I J P) (ho : ∀ a b x y z : Nat, a < 4 → b < 4 → x < 2 ^ 31 → y < 2 ^ 31 → z < 2 ^ 31 → k = nI a → k2 = nI b → i = nI x → i2 = nI y → n = nI z → mhSc k → mhSc k2 → mhCoF (I 22 k) (I 23 k) (I 22 k2) (I 23 k2) i i2 n = 0 → Φ (some (.int n)) S (mhUF F 21 0 0) (mhCp I 24 (60 * a + x) 24 (60 * b + y) z) J P) : mhOk l K mX7_copy [.ref 21, .int k, .int i, .int k2, .int i2, .int n] S F I J P Φ := by
  refine mhOk.of (by decide) (by decide) rfl (Nat.le_of_ble_eq_true rfl) ?_
  refine mh_aload_0 dX7_copy_0 (q := 1) rfl ?_
  refine mh_iconst_0 dX7_copy_1 (q := 2) rfl ?_
  refine mh_putI (Or.inl fw_X7_102) rfl rfl dX7_copy_2 (q := 5) rfl (shX7_0 h7) rfl ?_
  refine mh_iload_1 dX7_copy_5 (q := 6) rfl ?_
  refine mh_callS1 ca_X7_copy_6 (q := 9) rfl (by simp [Value.category]) ⟨Nat.zero_le _, Nat.zero_le _⟩ ?_
  refine sp_X7_isSheet (fun c6 => ?_) (fun c6 => ?_)
  · skip
    refine mh_if_eq dX7_copy_9 (tgt := 19) (q := 12) rfl rfl (fun hh => False.elim (by revert hh; decide)) (fun _ => ?_)
    refine mh_iload_3 dX7_copy_12 (q := 13) rfl ?_
    refine mh_callS1 ca_X7_copy_13 (q := 16) rfl (by simp [Value.category]) ⟨Nat.zero_le _, Nat.zero_le _⟩ ?_
    refine sp_X7_isSheet (fun c13 => ?_) (fun c13 => ?_)
    · skip
      refine mh_if_ne dX7_copy_16 (tgt := 21) (q := 19) rfl rfl (fun _ => ?_) (fun hh => False.elim (by revert hh; decide))
      refine mh_aload_0 dX7_copy_21 (q := 22) rfl ?_
      refine mh_getR fl_X7_9 dX7_copy_22 (q := 25) rfl (shX7_0 h7) rfl ?_
      refine mh_iload_1 dX7_copy_25 (q := 26) rfl ?_
      refine mh_iald dX7_copy_26 (q := 27) rfl (shX7_1 h7) (mh_sc4 c6) ?_
      refine mh_bipush (v := (-9)) dX7_copy_27 (q := 29) rfl (by decide) ?_
      refine mh_icmp_eq dX7_copy_29 (tgt := 43) (q := 32) rfl rfl (fun c29 => ?_) (fun c29 => ?_)
      · skip
        refine mh_aload_0 dX7_copy_43 (q := 44) rfl ?_
        refine mh_iconst_1 dX7_copy_44 (q := 45) rfl ?_
        refine mh_callV1 ca_X7_copy_45 (shX7_0 h7) (q := 48) rfl (by simp [Value.category]) ⟨Nat.zero_le _, Nat.zero_le _⟩ ?_
        refine sp_X7_fails h7 ?_
        refine mh_ireturn dX7_copy_48 rfl rfl ?_
        exact mh_clF1 (hb c6 c13 (by grind [mhUF, mhCoR, mhCoF])) (by grind [mhUF, mhCoR, mhCoF]) (by grind [mhUF, mhCoR, mhCoF])
      · skip
        refine mh_aload_0 dX7_copy_32 (q := 33) rfl ?_
        refine mh_getR fl_X7_9 dX7_copy_33 (q := 36) rfl (shX7_0 h7) rfl ?_
        refine mh_iload_3 dX7_copy_36 (q := 37) rfl ?_
        refine mh_iald dX7_copy_37 (q := 38) rfl (shX7_1 h7) (mh_sc4 c13) ?_
        refine mh_bipush (v := (-9)) dX7_copy_38 (q := 40) rfl (by decide) ?_
        refine mh_icmp_ne dX7_copy_40 (tgt := 49) (q := 43) rfl rfl (fun c40 => ?_) (fun c40 => ?_)
        · skip
          refine mh_aload_0 dX7_copy_49 (q := 50) rfl ?_
          refine mh_getR fl_X7_9 dX7_copy_50 (q := 53) rfl (shX7_0 h7) rfl ?_
          refine mh_iload_1 dX7_copy_53 (q := 54) rfl ?_
          refine mh_iald dX7_copy_54 (q := 55) rfl (shX7_1 h7) (mh_sc4 c6) ?_
          refine mh_aload_0 dX7_copy_55 (q := 56) rfl ?_
          refine mh_getR fl_X7_9 dX7_copy_56 (q := 59) rfl (shX7_0 h7) rfl ?_
          refine mh_iload_3 dX7_copy_59 (q := 60) rfl ?_
          refine mh_iald dX7_copy_60 (q := 61) rfl (shX7_1 h7) (mh_sc4 c13) ?_
          refine mh_icmp_eq dX7_copy_61 (tgt := 70) (q := 64) rfl rfl (fun c61 => ?_) (fun c61 => ?_)
          · skip
            refine mh_iload_2 dX7_copy_70 (q := 71) rfl ?_
            refine mh_if_lt dX7_copy_71 (tgt := 109) (q := 74) rfl rfl (fun c71 => ?_) (fun c71 => ?_)
            · skip
              refine mh_iconst_0 dX7_copy_109 (q := 110) rfl ?_
              refine mh_istore_6 dX7_copy_110 (q := 112) rfl ?_
              refine mh_iload_6 dX7_copy_112 (q := 114) rfl ?_
              refine mh_if_eq dX7_copy_114 (tgt := 144) (q := 117) rfl rfl (fun _ => ?_) (fun hh => False.elim (by revert hh; decide))
              refine mh_aload_0 dX7_copy_144 (q := 145) rfl ?_
              refine mh_iconst_3 dX7_copy_145 (q := 146) rfl ?_
              refine mh_callV1 ca_X7_copy_146 (shX7_0 h7) (q := 149) rfl (by simp [Value.category]) ⟨Nat.zero_le _, Nat.zero_le _⟩ ?_
              refine sp_X7_fails h7 ?_
              refine mh_ireturn dX7_copy_149 rfl rfl ?_
              exact mh_clF1 (hb c6 c13 (by grind [mhUF, mhCoR, mhCoF])) (by grind [mhUF, mhCoR, mhCoF]) (by grind [mhUF, mhCoR, mhCoF])
            · skip
              refine mh_iload_4 dX7_copy_74 (q := 76) rfl ?_
              refine mh_if_lt dX7_copy_76 (tgt := 109) (q := 79) rfl rfl (fun c76 => ?_) (fun c76 => ?_)
              · skip
                refine mh_iconst_0 dX7_copy_109 (q := 110) rfl ?_
                refine mh_istore_6 dX7_copy_110 (q := 112) rfl ?_
                refine mh_iload_6 dX7_copy_112 (q := 114) rfl ?_
                refine mh_if_eq dX7_copy_114 (tgt := 144) (q := 117) rfl rfl (fun _ => ?_) (fun hh => False.elim (by revert hh; decide))
                refine mh_aload_0 dX7_copy_144 (q := 145) rfl ?_
                refine mh_iconst_3 dX7_copy_145 (q := 146) rfl ?_
                refine mh_callV1 ca_X7_copy_146 (shX7_0 h7) (q := 149) rfl (by simp [Value.category]) ⟨Nat.zero_le _, Nat.zero_le _⟩ ?_
                refine sp_X7_fails h7 ?_
                refine mh_ireturn dX7_copy_149 rfl rfl ?_
                exact mh_clF1 (hb c6 c13 (by grind [mhUF, mhCoR, mhCoF])) (by grind [mhUF, mhCoR, mhCoF]) (by grind [mhUF, mhCoR, mhCoF])
              · skip
                refine mh_iload_5 dX7_copy_79 (q := 81) rfl ?_
                refine mh_if_lt dX7_copy_81 (tgt := 109) (q := 84) rfl rfl (fun c81 => ?_) (fun c81 => ?_)
                · skip
                  refine mh_iconst_0 dX7_copy_109 (q := 110) rfl ?_
                  refine mh_istore_6 dX7_copy_110 (q := 112) rfl ?_
                  refine mh_iload_6 dX7_copy_112 (q := 114) rfl ?_
                  refine mh_if_eq dX7_copy_114 (tgt := 144) (q := 117) rfl rfl (fun _ => ?_) (fun hh => False.elim (by revert hh; decide))
                  refine mh_aload_0 dX7_copy_144 (q := 145) rfl ?_
                  refine mh_iconst_3 dX7_copy_145 (q := 146) rfl ?_
                  refine mh_callV1 ca_X7_copy_146 (shX7_0 h7) (q := 149) rfl (by simp [Value.category]) ⟨Nat.zero_le _, Nat.zero_le _⟩ ?_
                  refine sp_X7_fails h7 ?_
                  refine mh_ireturn dX7_copy_149 rfl rfl ?_
                  exact mh_clF1 (hb c6 c13 (by grind [mhUF, mhCoR, mhCoF])) (by grind [mhUF, mhCoR, mhCoF]) (by grind [mhUF, mhCoR, mhCoF])
                · skip
                  refine mh_iload_2 dX7_copy_84 (q := 85) rfl ?_
                  refine mh_aload_0 dX7_copy_85 (q := 86) rfl ?_
                  refine mh_getR fl_X7_13 dX7_copy_86 (q := 89) rfl (shX7_0 h7) rfl ?_
                  refine mh_iload_1 dX7_copy_89 (q := 90) rfl ?_
                  refine mh_iald dX7_copy_90 (q := 91) rfl (shX7_2 h7) (mh_sc4 c6) ?_
                  refine mh_icmp_gt dX7_copy_91 (tgt := 109) (q := 94) rfl rfl (fun c91 => ?_) (fun c91 => ?_)
                  · skip
                    refine mh_iconst_0 dX7_copy_109 (q := 110) rfl ?_
                    refine mh_istore_6 dX7_copy_110 (q := 112) rfl ?_
                    refine mh_iload_6 dX7_copy_112 (q := 114) rfl ?_
                    refine mh_if_eq dX7_copy_114 (tgt := 144) (q := 117) rfl rfl (fun _ => ?_) (fun hh => False.elim (by revert hh; decide))
                    refine mh_aload_0 dX7_copy_144 (q := 145) rfl ?_
                    refine mh_iconst_3 dX7_copy_145 (q := 146) rfl ?_
                    refine mh_callV1 ca_X7_copy_146 (shX7_0 h7) (q := 149) rfl (by simp [Value.category]) ⟨Nat.zero_le _, Nat.zero_le _⟩ ?_
                    refine sp_X7_fails h7 ?_
                    refine mh_ireturn dX7_copy_149 rfl rfl ?_
                    exact mh_clF1 (hb c6 c13 (by grind [mhUF, mhCoR, mhCoF])) (by grind [mhUF, mhCoR, mhCoF]) (by grind [mhUF, mhCoR, mhCoF])
                  · skip
                    refine mh_iload_4 dX7_copy_94 (q := 96) rfl ?_
                    refine mh_aload_0 dX7_copy_96 (q := 97) rfl ?_
                    refine mh_getR fl_X7_13 dX7_copy_97 (q := 100) rfl (shX7_0 h7) rfl ?_
                    refine mh_iload_3 dX7_copy_100 (q := 101) rfl ?_
                    refine mh_iald dX7_copy_101 (q := 102) rfl (shX7_2 h7) (mh_sc4 c13) ?_
                    refine mh_icmp_gt dX7_copy_102 (tgt := 109) (q := 105) rfl rfl (fun c102 => ?_) (fun c102 => ?_)
                    · skip
                      refine mh_iconst_0 dX7_copy_109 (q := 110) rfl ?_
                      refine mh_istore_6 dX7_copy_110 (q := 112) rfl ?_
                      refine mh_iload_6 dX7_copy_112 (q := 114) rfl ?_
                      refine mh_if_eq dX7_copy_114 (tgt := 144) (q := 117) rfl rfl (fun _ => ?_) (fun hh => False.elim (by revert hh; decide))
                      refine mh_aload_0 dX7_copy_144 (q := 145) rfl ?_
                      refine mh_iconst_3 dX7_copy_145 (q := 146) rfl ?_
                      refine mh_callV1 ca_X7_copy_146 (shX7_0 h7) (q := 149) rfl (by simp [Value.category]) ⟨Nat.zero_le _, Nat.zero_le _⟩ ?_
                      refine sp_X7_fails h7 ?_
                      refine mh_ireturn dX7_copy_149 rfl rfl ?_
                      exact mh_clF1 (hb c6 c13 (by grind [mhUF, mhCoR, mhCoF])) (by grind [mhUF, mhCoR, mhCoF]) (by grind [mhUF, mhCoR, mhCoF])
                    · skip
                      refine mh_iconst_1 dX7_copy_105 (q := 106) rfl ?_
                      refine mh_goto dX7_copy_106 (tgt := 110) rfl ?_
                      refine mh_istore_6 dX7_copy_110 (q := 112) rfl ?_
                      refine mh_iload_6 dX7_copy_112 (q := 114) rfl ?_
                      refine mh_if_eq dX7_copy_114 (tgt := 144) (q := 117) rfl rfl (fun hh => False.elim (by revert hh; decide)) (fun _ => ?_)
                      refine mh_iload_5 dX7_copy_117 (q := 119) rfl ?_
                      refine mh_aload_0 dX7_copy_119 (q := 120) rfl ?_
                      refine mh_getR fl_X7_13 dX7_copy_120 (q := 123) rfl (shX7_0 h7) rfl ?_
                      refine mh_iload_1 dX7_copy_123 (q := 124) rfl ?_
                      refine mh_iald dX7_copy_124 (q := 125) rfl (shX7_2 h7) (mh_sc4 c6) ?_
                      refine mh_iload_2 dX7_copy_125 (q := 126) rfl ?_
                      refine mh_isub dX7_copy_126 (q := 127) rfl ?_
                      refine mh_icmp_gt dX7_copy_127 (tgt := 144) (q := 130) rfl rfl (fun c127 => ?_) (fun c127 => ?_)
                      · skip
                        refine mh_aload_0 dX7_copy_144 (q := 145) rfl ?_
                        refine mh_iconst_3 dX7_copy_145 (q := 146) rfl ?_
                        refine mh_callV1 ca_X7_copy_146 (shX7_0 h7) (q := 149) rfl (by simp [Value.category]) ⟨Nat.zero_le _, Nat.zero_le _⟩ ?_
                        refine sp_X7_fails h7 ?_
                        refine mh_ireturn dX7_copy_149 rfl rfl ?_
                        exact mh_clF1 (hb c6 c13 (by grind [mhUF, mhCoR, mhCoF])) (by grind [mhUF, mhCoR, mhCoF]) (by grind [mhUF, mhCoR, mhCoF])
                      · skip
                        refine mh_iload_5 dX7_copy_130 (q := 132) rfl ?_
                        refine mh_aload_0 dX7_copy_132 (q := 133) rfl ?_
                        refine mh_getR fl_X7_13 dX7_copy_133 (q := 136) rfl (shX7_0 h7) rfl ?_
                        refine mh_iload_3 dX7_copy_136 (q := 137) rfl ?_
                        refine mh_iald dX7_copy_137 (q := 138) rfl (shX7_2 h7) (mh_sc4 c13) ?_
                        refine mh_iload_4 dX7_copy_138 (q := 140) rfl ?_
                        refine mh_isub dX7_copy_140 (q := 141) rfl ?_
                        refine mh_icmp_le dX7_copy_141 (tgt := 150) (q := 144) rfl rfl (fun c141 => ?_) (fun c141 => ?_)
                        · skip
                          refine mh_iload_2 dX7_copy_150 (q := 151) rfl ?_
                          refine mh_iload_4 dX7_copy_151 (q := 153) rfl ?_
                          refine mh_icmp_ge dX7_copy_153 (tgt := 160) (q := 156) rfl rfl (fun c153 => ?_) (fun c153 => ?_)
                          · skip
                            refine mh_iconst_0 dX7_copy_160 (q := 161) rfl ?_
                            refine mh_istore_7 dX7_copy_161 (q := 163) rfl ?_
                            refine mh_iconst_0 dX7_copy_163 (q := 164) rfl ?_
                            refine mh_istore_8 dX7_copy_164 (q := 166) rfl ?_
                            obtain ⟨a, ha, rfl⟩ := mh_scj c6
                            obtain ⟨b, hb2, rfl⟩ := mh_scj c13
                            have q0 := (hL a ha).1
                            have q1 := (hL a ha).2
                            have q2 := (hL b hb2).1
                            have q3 := (hL b hb2).2
                            obtain ⟨i, hi, rfl⟩ := nI_of c71
                            obtain ⟨j, hj, rfl⟩ := nI_of c76
                            obtain ⟨n, hn3, rfl⟩ := nI_of c81
                            have z1 := mh_cln (i := nI i) (n := nI n) (by grind) (by grind) (by grind) (by grind)
                            have z2 := mh_cln (i := nI j) (n := nI n) (by grind) (by grind) (by grind) (by grind)
                            have h9 := ho a b i j n ha hb2 hi hj hn3 rfl rfl rfl rfl rfl c6 c13 (by grind [mhCoF])
                            rw [nI_clamp hi, nI_clamp hn3] at z1
                            rw [nI_clamp hj, nI_clamp hn3] at z2
                            have hc := c153
                            rw [nI_leI hj hi] at hc
                            have hl := lp_X7_copyB (l := l) (K := K) (kc := mX7_copy.2.2.2.2.cells) (ks := mX7_copy.2.2.2.2.slots) h7 ha hb2 z1 z2 (by omega) (o6 := some (.int 1)) h9 n 0 none (by omega)
                            rw [mhCp_0] at hl
                            exact hl
                          · skip
                            refine mh_iconst_1 dX7_copy_156 (q := 157) rfl ?_
                            refine mh_goto dX7_copy_157 (tgt := 161) rfl ?_
                            refine mh_istore_7 dX7_copy_161 (q := 163) rfl ?_
                            refine mh_iconst_0 dX7_copy_163 (q := 164) rfl ?_
                            refine mh_istore_8 dX7_copy_164 (q := 166) rfl ?_
                            obtain ⟨a, ha, rfl⟩ := mh_scj c6
                            obtain ⟨b, hb2, rfl⟩ := mh_scj c13
                            have q0 := (hL a ha).1
                            have q1 := (hL a ha).2
                            have q2 := (hL b hb2).1
                            have q3 := (hL b hb2).2
                            obtain ⟨i, hi, rfl⟩ := nI_of c71
                            obtain ⟨j, hj, rfl⟩ := nI_of c76
                            obtain ⟨n, hn3, rfl⟩ := nI_of c81
                            have z1 := mh_cln (i := nI i) (n := nI n) (by grind) (by grind) (by grind) (by grind)
                            have z2 := mh_cln (i := nI j) (n := nI n) (by grind) (by grind) (by grind) (by grind)
                            have h9 := ho a b i j n ha hb2 hi hj hn3 rfl rfl rfl rfl rfl c6 c13 (by grind [mhCoF])
                            rw [nI_clamp hi, nI_clamp hn3] at z1
                            rw [nI_clamp hj, nI_clamp hn3] at z2
                            have hc := c153
                            rw [nI_leI hj hi] at hc
                            have hl := lp_X7_copyA (l := l) (K := K) (kc := mX7_copy.2.2.2.2.cells) (ks := mX7_copy.2.2.2.2.slots) h7 ha hb2 z1 z2 (by omega) (o6 := some (.int 1)) h9 n 0 none (by omega)
                            rw [mhCp_0] at hl
                            exact hl
                        · skip
                          refine mh_aload_0 dX7_copy_144 (q := 145) rfl ?_
                          refine mh_iconst_3 dX7_copy_145 (q := 146) rfl ?_
                          refine mh_callV1 ca_X7_copy_146 (shX7_0 h7) (q := 149) rfl (by simp [Value.category]) ⟨Nat.zero_le _, Nat.zero_le _⟩ ?_
                          refine sp_X7_fails h7 ?_
                          refine mh_ireturn dX7_copy_149 rfl rfl ?_
                          exact mh_clF1 (hb c6 c13 (by grind [mhUF, mhCoR, mhCoF])) (by grind [mhUF, mhCoR, mhCoF]) (by grind [mhUF, mhCoR, mhCoF])
          · skip
            refine mh_aload_0 dX7_copy_64 (q := 65) rfl ?_
            refine mh_iconst_2 dX7_copy_65 (q := 66) rfl ?_
            refine mh_callV1 ca_X7_copy_66 (shX7_0 h7) (q := 69) rfl (by simp [Value.category]) ⟨Nat.zero_le _, Nat.zero_le _⟩ ?_
            refine sp_X7_fails h7 ?_
            refine mh_ireturn dX7_copy_69 rfl rfl ?_
            exact mh_clF1 (hb c6 c13 (by grind [mhUF, mhCoR, mhCoF])) (by grind [mhUF, mhCoR, mhCoF]) (by grind [mhUF, mhCoR, mhCoF])
        · skip
          refine mh_aload_0 dX7_copy_43 (q := 44) rfl ?_
          refine mh_iconst_1 dX7_copy_44 (q := 45) rfl ?_
          refine mh_callV1 ca_X7_copy_45 (shX7_0 h7) (q := 48) rfl (by simp [Value.category]) ⟨Nat.zero_le _, Nat.zero_le _⟩ ?_
          refine sp_X7_fails h7 ?_
          refine mh_ireturn dX7_copy_48 rfl rfl ?_
          exact mh_clF1 (hb c6 c13 (by grind [mhUF, mhCoR, mhCoF])) (by grind [mhUF, mhCoR, mhCoF]) (by grind [mhUF, mhCoR, mhCoF])
    · skip
      refine mh_if_ne dX7_copy_16 (tgt := 21) (q := 19) rfl rfl (fun hh => False.elim (by revert hh; decide)) (fun _ => ?_)
      refine mh_iconst_m1 dX7_copy_19 (q := 20) rfl ?_
      refine mh_ireturn dX7_copy_20 rfl rfl ?_
      exact hn (by grind)
  · skip
    refine mh_if_eq dX7_copy_9 (tgt := 19) (q := 12) rfl rfl (fun _ => ?_) (fun hh => False.elim (by revert hh; decide))
    refine mh_iconst_m1 dX7_copy_19 (q := 20) rfl ?_
    refine mh_ireturn dX7_copy_20 rfl rfl ?_
    exact hn (by grind)
