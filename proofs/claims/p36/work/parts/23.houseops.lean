/-! houses: the calls that tell of them and change a side -/
/-- the class's houses: nh, their measures, where they lie -/
def mhHC (S : List mhS) (F : mhF) (I : mhI) (P : mhP) (nh : Nat) (wd hg aH : Nat → Nat) : Prop := mhKX6 S ∧ nh ≤ 3 ∧ F 0 7 = nI nh ∧ ∀ j, j < nh → P 2 (nI j) = some (aH j) ∧ mhHs S F I (aH j) (wd j) (hg j)
def vHs (nh : Nat) (x : Int32) : Prop := ∃ j, j < nh ∧ x = nI j
def vHR (nh : Nat) (wd hg : Nat → Nat) (x y : Int32) : Prop := ∃ j, j < nh ∧ x = nI j ∧ vRm (wd j) (hg j) y
def vHS (nh : Nat) (wd hg : Nat → Nat) (x y : Int32) : Prop := ∃ j, j < nh ∧ x = nI j ∧ vSd (wd j) (hg j) y
theorem mh_e50 (j k : Nat) : (50 : Int32) * nI j + nI k = nI (50 * j + k) := by rw [show (50 : Int32) = nI 50 from rfl, pk_mul, nI_add]
/-- how many of n are of a kind -/
def mhCnt (f : Nat → Int32) (v : Int32) : Nat → Int32
  | 0 => 0
  | n + 1 => mhCnt f v n + (if f n = v then 1 else 0)
def mhSum (f : Nat → Int32) : Nat → Int32
  | 0 => 0
  | n + 1 => mhSum f n + f n
theorem mhCnt_congr {f f' : Nat → Int32} {v : Int32} : ∀ {n : Nat}, (∀ k, k < n → f k = f' k) → mhCnt f v n = mhCnt f' v n
  | 0, _ => rfl
  | n + 1, h => by unfold mhCnt; rw [mhCnt_congr (fun k hk => h k (by omega)), h n (by omega)]
theorem mhSum_congr {f f' : Nat → Int32} : ∀ {n : Nat}, (∀ k, k < n → f k = f' k) → mhSum f n = mhSum f' n
  | 0, _ => rfl
  | n + 1, h => by unfold mhSum; rw [mhSum_congr (fun k hk => h k (by omega)), h n (by omega)]
set_option maxHeartbeats 4000000 in
set_option maxRecDepth 100000 in
theorem sp_X6_houseAt {l : Launch} {K : mhX} {Φ : mhQ} {S : List mhS} {F : mhF} {I : mhI} {J : mhJ} {P : mhP} {nh : Nat} {wd hg aH : Nat → Nat} (hC : mhHC S F I P nh wd hg aH) {x : Int32} (hn : ¬ vHs nh x → Φ (some .null) S F I J P) (ht : ∀ j, j < nh → x = nI j → Φ (some (.ref (aH j))) S F I J P) : mhOk l K mX6_houseAt [.ref 0, .int x] S F I J P Φ := by
  refine mhOk.of (by decide) (by decide) rfl (Nat.le_of_ble_eq_true rfl) ?_
  refine mh_iload_1 dX6_houseAt_0 (q := 1) rfl ?_
  refine mh_if_lt dX6_houseAt_1 (tgt := 30) (q := 4) rfl rfl (fun c1 => ?_) (fun c1 => ?_)
  · skip
    refine mh_aconst_null dX6_houseAt_30 (q := 31) rfl ?_
    refine mh_areturnN dX6_houseAt_31 rfl ?_
    refine hn (fun e => ?_)
    have e2 := (mh_lt (n := nh) (by have := hC.2.1; omega)).mpr e
    have e3 := hC.2.1
    first | (exact absurd e2.1 (Int32.not_le.mpr c1)) | (exact absurd e2.2 (Int32.not_lt.mpr c9)) | (obtain ⟨j, hj, rfl⟩ := e; exact absurd c18 (nI_ge (b := 3) (by omega) (by decide)))
  · skip
    refine mh_iload_1 dX6_houseAt_4 (q := 5) rfl ?_
    refine mh_aload_0 dX6_houseAt_5 (q := 6) rfl ?_
    refine mh_getI fl_X6_54 dX6_houseAt_6 (q := 9) rfl (shX6_0 hC.1) rfl ?_
    rw [hC.2.2.1]
    refine mh_icmp_ge dX6_houseAt_9 (tgt := 30) (q := 12) rfl rfl (fun c9 => ?_) (fun c9 => ?_)
    · skip
      refine mh_aconst_null dX6_houseAt_30 (q := 31) rfl ?_
      refine mh_areturnN dX6_houseAt_31 rfl ?_
      refine hn (fun e => ?_)
      have e2 := (mh_lt (n := nh) (by have := hC.2.1; omega)).mpr e
      have e3 := hC.2.1
      first | (exact absurd e2.1 (Int32.not_le.mpr c1)) | (exact absurd e2.2 (Int32.not_lt.mpr c9)) | (obtain ⟨j, hj, rfl⟩ := e; exact absurd c18 (nI_ge (b := 3) (by omega) (by decide)))
    · skip
      refine mh_iload_1 dX6_houseAt_12 (q := 13) rfl ?_
      refine mh_aload_0 dX6_houseAt_13 (q := 14) rfl ?_
      refine mh_getR fl_X6_19 dX6_houseAt_14 (q := 17) rfl (shX6_0 hC.1) rfl ?_
      refine mh_alen (v := 3) dX6_houseAt_17 (q := 18) rfl (shX6_2 hC.1) (by decide) rfl ?_
      refine mh_icmp_ge dX6_houseAt_18 (tgt := 30) (q := 21) rfl rfl (fun c18 => ?_) (fun c18 => ?_)
      · skip
        refine mh_aconst_null dX6_houseAt_30 (q := 31) rfl ?_
        refine mh_areturnN dX6_houseAt_31 rfl ?_
        refine hn (fun e => ?_)
        have e2 := (mh_lt (n := nh) (by have := hC.2.1; omega)).mpr e
        have e3 := hC.2.1
        first | (exact absurd e2.1 (Int32.not_le.mpr c1)) | (exact absurd e2.2 (Int32.not_lt.mpr c9)) | (obtain ⟨j, hj, rfl⟩ := e; exact absurd c18 (nI_ge (b := 3) (by omega) (by decide)))
      · skip
        refine mh_aload_0 dX6_houseAt_21 (q := 22) rfl ?_
        refine mh_getR fl_X6_19 dX6_houseAt_22 (q := 25) rfl (shX6_0 hC.1) rfl ?_
        refine mh_iload_1 dX6_houseAt_25 (q := 26) rfl ?_
        obtain ⟨j, hj, rfl⟩ := (mh_lt (n := nh) (by have := hC.2.1; omega)).mp ⟨Int32.not_lt.mp c1, Int32.not_le.mp c9⟩
        refine mh_aald dX6_houseAt_26 (q := 27) rfl (Or.inr (Or.inl ⟨rfl, rfl⟩)) (shX6_2 hC.1) (vp_in_nI (by have := hC.2.1; omega) (by decide)) (hC.2.2.2 j hj).1 ?_
        refine mh_goto dX6_houseAt_27 (tgt := 31) rfl ?_
        refine mh_areturn dX6_houseAt_31 rfl ?_
        exact ht j hj rfl
set_option maxHeartbeats 4000000 in
set_option maxRecDepth 100000 in
theorem sp_X1_become {l : Launch} {K : mhX} {Φ : mhQ} {S : List mhS} {F : mhF} {I : mhI} {J : mhJ} {P : mhP} {a w h : Nat} (hH : mhHs S F I a w h) {k : Nat} (hk : k < gSides w h) {v : Int32} (hΦ : Φ (some (.int (I (a + 1) (nI k)))) S F (if I (a + 1) (nI k) = v then mhUI I (a + 1) (nI k) v else mhUI (mhUI I (a + 1) (nI k) v) (a + 2) (nI k) 0) J P) : mhOk l K mX1_become [.ref a, .int (nI k), .int v] S F I J P Φ := by
  refine mhOk.of (by decide) (by decide) rfl (Nat.le_of_ble_eq_true rfl) ?_
  have hb := gBd hH.2.1
  refine mh_aload_0 dX1_become_0 (q := 1) rfl ?_
  refine mh_getR fl_X1_9 dX1_become_1 (q := 4) rfl (shX1_0 hH.1) rfl ?_
  refine mh_iload_1 dX1_become_4 (q := 5) rfl ?_
  refine mh_iald dX1_become_5 (q := 6) rfl (shX1_1 hH.1) (vp_in_nI (by omega) (by decide)) ?_
  refine mh_istore_3 dX1_become_6 (q := 7) rfl ?_
  refine mh_aload_0 dX1_become_7 (q := 8) rfl ?_
  refine mh_getR fl_X1_9 dX1_become_8 (q := 11) rfl (shX1_0 hH.1) rfl ?_
  refine mh_iload_1 dX1_become_11 (q := 12) rfl ?_
  refine mh_iload_2 dX1_become_12 (q := 13) rfl ?_
  refine mh_iast dX1_become_13 (q := 14) rfl (shX1_1 hH.1) (by decide) (vp_in_nI (by omega) (by decide)) ?_
  refine mh_iload_3 dX1_become_14 (q := 15) rfl ?_
  refine mh_iload_2 dX1_become_15 (q := 16) rfl ?_
  refine mh_icmp_eq dX1_become_16 (tgt := 26) (q := 19) rfl rfl (fun c16 => ?_) (fun c16 => ?_)
  · skip
    refine mh_iload_3 dX1_become_26 (q := 27) rfl ?_
    refine mh_ireturn dX1_become_27 rfl rfl ?_
    first | (rw [if_pos c16] at hΦ; exact hΦ) | (rw [if_neg c16] at hΦ; exact hΦ)
  · skip
    refine mh_aload_0 dX1_become_19 (q := 20) rfl ?_
    refine mh_getR fl_X1_15 dX1_become_20 (q := 23) rfl (shX1_0 hH.1) rfl ?_
    refine mh_iload_1 dX1_become_23 (q := 24) rfl ?_
    refine mh_iconst_0 dX1_become_24 (q := 25) rfl ?_
    refine mh_iast dX1_become_25 (q := 26) rfl (shX1_2 hH.1) (by decide) (vp_in_nI (by omega) (by decide)) ?_
    refine mh_iload_3 dX1_become_26 (q := 27) rfl ?_
    refine mh_ireturn dX1_become_27 rfl rfl ?_
    first | (rw [if_pos c16] at hΦ; exact hΦ) | (rw [if_neg c16] at hΦ; exact hΦ)
