/-! houses: the calls that tell of them and change a side -/
/-- the class's houses: nh, their measures, where they lie -/
def mhHC (S : List mhS) (F : mhF) (I : mhI) (P : mhP) (nh : Nat) (wd hg aH : Nat → Nat) : Prop := mhKX6 S ∧ nh ≤ 3 ∧ F 0 7 = nI nh ∧ ∀ j, j < nh → P 2 (nI j) = some (aH j) ∧ mhHs S F I (aH j) (wd j) (hg j)
/-- the reference's houses -/
def mhHR (S : List mhS) (F : mhF) (I : mhI) (nh : Nat) (wd hg : Nat → Nat) : Prop := mhKX7 S ∧ nh ≤ 3 ∧ F 21 5 = nI nh ∧ ∀ j, j < nh → mhHm I j (wd j) (hg j)
def vHs (nh : Nat) (x : Int32) : Prop := ∃ j, j < nh ∧ x = nI j
def vHR (nh : Nat) (wd hg : Nat → Nat) (x y : Int32) : Prop := ∃ j, j < nh ∧ x = nI j ∧ vRm (wd j) (hg j) y
def vHS (nh : Nat) (wd hg : Nat → Nat) (x y : Int32) : Prop := ∃ j, j < nh ∧ x = nI j ∧ vSd (wd j) (hg j) y
theorem mh_e50 (j k : Nat) : (50 : Int32) * nI j + nI k = nI (50 * j + k) := by rw [show (50 : Int32) = nI 50 from rfl, pk_mul, nI_add]
/-- how many of n are of a kind -/
def mhCnt (f : Nat → Int32) (v : Int32) : Nat → Int32
  | 0 => 0
  | n + 1 => mhCnt f v n + (if f n = v then 1 else 0)
def mhSum (f : Nat → Int32) : Nat → Int32
  | 0 => 0
  | n + 1 => mhSum f n + f n
theorem mhCnt_congr {f f' : Nat → Int32} {v : Int32} : ∀ {n : Nat}, (∀ k, k < n → f k = f' k) → mhCnt f v n = mhCnt f' v n
  | 0, _ => rfl
  | n + 1, h => by unfold mhCnt; rw [mhCnt_congr (fun k hk => h k (by omega)), h n (by omega)]
theorem mhSum_congr {f f' : Nat → Int32} : ∀ {n : Nat}, (∀ k, k < n → f k = f' k) → mhSum f n = mhSum f' n
  | 0, _ => rfl
  | n + 1, h => by unfold mhSum; rw [mhSum_congr (fun k hk => h k (by omega)), h n (by omega)]
set_option maxHeartbeats 4000000 in
set_option maxRecDepth 100000 in
theorem sp_X6_houseAt {l : Launch} {K : mhX} {Φ : mhQ} {S : List mhS} {F : mhF} {I : mhI} {J : mhJ} {P : mhP} {nh : Nat} {wd hg aH : Nat → Nat} (hC : mhHC S F I P nh wd hg aH) {x : Int32} (hn : ¬ vHs nh x → Φ (some .null) S F I J P) (ht : ∀ j, j < nh → x = nI j → Φ (some (.ref (aH j))) S F I J P) : mhOk l K mX6_houseAt [.ref 0, .int x] S F I J P Φ := by
  refine mhOk.of (by decide) (by decide) rfl (Nat.le_of_ble_eq_true rfl) ?_
  refine mh_iload_1 dX6_houseAt_0 (q := 1) rfl ?_
  refine mh_if_lt dX6_houseAt_1 (tgt := 30) (q := 4) rfl rfl (fun c1 => ?_) (fun c1 => ?_)
  · skip
    refine mh_aconst_null dX6_houseAt_30 (q := 31) rfl ?_
    refine mh_areturnN dX6_houseAt_31 rfl ?_
    refine hn (fun e => ?_)
    have e2 := (mh_lt (n := nh) (by have := hC.2.1; omega)).mpr e
    have e3 := hC.2.1
    first | (exact absurd e2.1 (Int32.not_le.mpr c1)) | (exact absurd e2.2 (Int32.not_lt.mpr c9)) | (obtain ⟨j, hj, rfl⟩ := e; exact absurd c18 (nI_ge (b := 3) (by omega) (by decide)))
  · skip
    refine mh_iload_1 dX6_houseAt_4 (q := 5) rfl ?_
    refine mh_aload_0 dX6_houseAt_5 (q := 6) rfl ?_
    refine mh_getI fl_X6_54 dX6_houseAt_6 (q := 9) rfl (shX6_0 hC.1) rfl ?_
    rw [hC.2.2.1]
    refine mh_icmp_ge dX6_houseAt_9 (tgt := 30) (q := 12) rfl rfl (fun c9 => ?_) (fun c9 => ?_)
    · skip
      refine mh_aconst_null dX6_houseAt_30 (q := 31) rfl ?_
      refine mh_areturnN dX6_houseAt_31 rfl ?_
      refine hn (fun e => ?_)
      have e2 := (mh_lt (n := nh) (by have := hC.2.1; omega)).mpr e
      have e3 := hC.2.1
      first | (exact absurd e2.1 (Int32.not_le.mpr c1)) | (exact absurd e2.2 (Int32.not_lt.mpr c9)) | (obtain ⟨j, hj, rfl⟩ := e; exact absurd c18 (nI_ge (b := 3) (by omega) (by decide)))
    · skip
      refine mh_iload_1 dX6_houseAt_12 (q := 13) rfl ?_
      refine mh_aload_0 dX6_houseAt_13 (q := 14) rfl ?_
      refine mh_getR fl_X6_19 dX6_houseAt_14 (q := 17) rfl (shX6_0 hC.1) rfl ?_
      refine mh_alen (v := 3) dX6_houseAt_17 (q := 18) rfl (shX6_2 hC.1) (by decide) rfl ?_
      refine mh_icmp_ge dX6_houseAt_18 (tgt := 30) (q := 21) rfl rfl (fun c18 => ?_) (fun c18 => ?_)
      · skip
        refine mh_aconst_null dX6_houseAt_30 (q := 31) rfl ?_
        refine mh_areturnN dX6_houseAt_31 rfl ?_
        refine hn (fun e => ?_)
        have e2 := (mh_lt (n := nh) (by have := hC.2.1; omega)).mpr e
        have e3 := hC.2.1
        first | (exact absurd e2.1 (Int32.not_le.mpr c1)) | (exact absurd e2.2 (Int32.not_lt.mpr c9)) | (obtain ⟨j, hj, rfl⟩ := e; exact absurd c18 (nI_ge (b := 3) (by omega) (by decide)))
      · skip
        refine mh_aload_0 dX6_houseAt_21 (q := 22) rfl ?_
        refine mh_getR fl_X6_19 dX6_houseAt_22 (q := 25) rfl (shX6_0 hC.1) rfl ?_
        refine mh_iload_1 dX6_houseAt_25 (q := 26) rfl ?_
        obtain ⟨j, hj, rfl⟩ := (mh_lt (n := nh) (by have := hC.2.1; omega)).mp ⟨Int32.not_lt.mp c1, Int32.not_le.mp c9⟩
        refine mh_aald dX6_houseAt_26 (q := 27) rfl (Or.inr (Or.inl ⟨rfl, rfl⟩)) (shX6_2 hC.1) (vp_in_nI (by have := hC.2.1; omega) (by decide)) (hC.2.2.2 j hj).1 ?_
        refine mh_goto dX6_houseAt_27 (tgt := 31) rfl ?_
        refine mh_areturn dX6_houseAt_31 rfl ?_
        exact ht j hj rfl
set_option maxHeartbeats 4000000 in
set_option maxRecDepth 100000 in
theorem sp_X7_isHouse {l : Launch} {K : mhX} {Φ : mhQ} {S : List mhS} {F : mhF} {I : mhI} {J : mhJ} {P : mhP} {nh : Nat} {wd hg : Nat → Nat} (hM : mhHR S F I nh wd hg) {x : Int32} (ht : ∀ j, j < nh → x = nI j → Φ (some (.int 1)) S F I J P) (hf : ¬ vHs nh x → Φ (some (.int 0)) S F I J P) : mhOk l K mX7_isHouse [.ref 21, .int x] S F I J P Φ := by
  refine mhOk.of (by decide) (by decide) rfl (Nat.le_of_ble_eq_true rfl) ?_
  refine mh_iload_1 dX7_isHouse_0 (q := 1) rfl ?_
  refine mh_if_lt dX7_isHouse_1 (tgt := 16) (q := 4) rfl rfl (fun c1 => ?_) (fun c1 => ?_)
  · skip
    refine mh_iconst_0 dX7_isHouse_16 (q := 17) rfl ?_
    refine mh_ireturn dX7_isHouse_17 rfl rfl ?_
    refine hf (fun e => ?_)
    have e2 := (mh_lt (n := nh) (by have := hM.2.1; omega)).mpr e
    first | (exact absurd e2.1 (Int32.not_le.mpr c1)) | (exact absurd e2.2 (Int32.not_lt.mpr c9))
  · skip
    refine mh_iload_1 dX7_isHouse_4 (q := 5) rfl ?_
    refine mh_aload_0 dX7_isHouse_5 (q := 6) rfl ?_
    refine mh_getI fl_X7_112 dX7_isHouse_6 (q := 9) rfl (shX7_0 hM.1) rfl ?_
    rw [hM.2.2.1]
    refine mh_icmp_ge dX7_isHouse_9 (tgt := 16) (q := 12) rfl rfl (fun c9 => ?_) (fun c9 => ?_)
    · skip
      refine mh_iconst_0 dX7_isHouse_16 (q := 17) rfl ?_
      refine mh_ireturn dX7_isHouse_17 rfl rfl ?_
      refine hf (fun e => ?_)
      have e2 := (mh_lt (n := nh) (by have := hM.2.1; omega)).mpr e
      first | (exact absurd e2.1 (Int32.not_le.mpr c1)) | (exact absurd e2.2 (Int32.not_lt.mpr c9))
    · skip
      refine mh_iconst_1 dX7_isHouse_12 (q := 13) rfl ?_
      refine mh_goto dX7_isHouse_13 (tgt := 17) rfl ?_
      refine mh_ireturn dX7_isHouse_17 rfl rfl ?_
      obtain ⟨j, hj, e⟩ := (mh_lt (n := nh) (by have := hM.2.1; omega)).mp ⟨Int32.not_lt.mp c1, Int32.not_le.mp c9⟩
      exact ht j hj e
set_option maxHeartbeats 4000000 in
set_option maxRecDepth 100000 in
theorem sp_X7_isRoom {l : Launch} {K : mhX} {Φ : mhQ} {S : List mhS} {F : mhF} {I : mhI} {J : mhJ} {P : mhP} {nh : Nat} {wd hg : Nat → Nat} (hM : mhHR S F I nh wd hg) {x y : Int32} (ht : ∀ j r, j < nh → r < gRooms (wd j) (hg j) → x = nI j → y = nI r → Φ (some (.int 1)) S F I J P) (hf : ¬ vHR nh wd hg x y → Φ (some (.int 0)) S F I J P) : mhOk l K mX7_isRoom [.ref 21, .int x, .int y] S F I J P Φ := by
  refine mhOk.of (by decide) (by decide) rfl (Nat.le_of_ble_eq_true rfl) ?_
  refine mh_aload_0 dX7_isRoom_0 (q := 1) rfl ?_
  refine mh_iload_1 dX7_isRoom_1 (q := 2) rfl ?_
  refine mh_callV1 ca_X7_isRoom_2 (shX7_0 hM.1) (q := 5) rfl (by simp [Value.category]) ⟨Nat.zero_le _, Nat.zero_le _⟩ ?_
  refine sp_X7_isHouse hM (fun j hj ej => ?_) (fun hk => ?_)
  · skip
    subst ej
    refine mh_if_eq dX7_isRoom_5 (tgt := 25) (q := 8) rfl rfl (fun hh => False.elim (by revert hh; decide)) (fun _ => ?_)
    refine mh_iload_2 dX7_isRoom_8 (q := 9) rfl ?_
    refine mh_if_lt dX7_isRoom_9 (tgt := 25) (q := 12) rfl rfl (fun c9 => ?_) (fun c9 => ?_)
    · skip
      refine mh_iconst_0 dX7_isRoom_25 (q := 26) rfl ?_
      refine mh_ireturn dX7_isRoom_26 rfl rfl ?_
      first
      | exact hf (fun ⟨j, hj, e, _⟩ => hk ⟨j, hj, e⟩)
      | (refine hf (fun ⟨i, hi, e, e1⟩ => ?_)
         have e4 : j = i := (nI_eq (by have := hM.2.1; omega) (by have := hM.2.1; omega)).mp e
         subst e4
         have e2 := (mh_lt (n := gRooms (wd j) (hg j)) (by have := gBd (hM.2.2.2 j hj).2.1; omega)).mpr e1
         first | (exact absurd e2.1 (Int32.not_le.mpr c9)) | (exact absurd e2.2 (Int32.not_lt.mpr c18)))
    · skip
      refine mh_iload_2 dX7_isRoom_12 (q := 13) rfl ?_
      refine mh_aload_0 dX7_isRoom_13 (q := 14) rfl ?_
      refine mh_iload_1 dX7_isRoom_14 (q := 15) rfl ?_
      refine mh_callV1 ca_X7_isRoom_15 (shX7_0 hM.1) (q := 18) rfl (by simp [Value.category]) ⟨Nat.zero_le _, Nat.zero_le _⟩ ?_
      refine sp_X7_rooms hM.1 (hM.2.2.2 j hj) ?_
      refine mh_icmp_ge dX7_isRoom_18 (tgt := 25) (q := 21) rfl rfl (fun c18 => ?_) (fun c18 => ?_)
      · skip
        refine mh_iconst_0 dX7_isRoom_25 (q := 26) rfl ?_
        refine mh_ireturn dX7_isRoom_26 rfl rfl ?_
        first
        | exact hf (fun ⟨j, hj, e, _⟩ => hk ⟨j, hj, e⟩)
        | (refine hf (fun ⟨i, hi, e, e1⟩ => ?_)
           have e4 : j = i := (nI_eq (by have := hM.2.1; omega) (by have := hM.2.1; omega)).mp e
           subst e4
           have e2 := (mh_lt (n := gRooms (wd j) (hg j)) (by have := gBd (hM.2.2.2 j hj).2.1; omega)).mpr e1
           first | (exact absurd e2.1 (Int32.not_le.mpr c9)) | (exact absurd e2.2 (Int32.not_lt.mpr c18)))
      · skip
        refine mh_iconst_1 dX7_isRoom_21 (q := 22) rfl ?_
        refine mh_goto dX7_isRoom_22 (tgt := 26) rfl ?_
        refine mh_ireturn dX7_isRoom_26 rfl rfl ?_
        obtain ⟨r, hr, e⟩ := (mh_lt (n := gRooms (wd j) (hg j)) (by have := gBd (hM.2.2.2 j hj).2.1; omega)).mp ⟨Int32.not_lt.mp c9, Int32.not_le.mp c18⟩
        exact ht j r hj hr rfl e
  · skip
    refine mh_if_eq dX7_isRoom_5 (tgt := 25) (q := 8) rfl rfl (fun _ => ?_) (fun hh => False.elim (by revert hh; decide))
    refine mh_iconst_0 dX7_isRoom_25 (q := 26) rfl ?_
    refine mh_ireturn dX7_isRoom_26 rfl rfl ?_
    first
    | exact hf (fun ⟨j, hj, e, _⟩ => hk ⟨j, hj, e⟩)
    | (refine hf (fun ⟨i, hi, e, e1⟩ => ?_)
       have e4 : j = i := (nI_eq (by have := hM.2.1; omega) (by have := hM.2.1; omega)).mp e
       subst e4
       have e2 := (mh_lt (n := gRooms (wd j) (hg j)) (by have := gBd (hM.2.2.2 j hj).2.1; omega)).mpr e1
       first | (exact absurd e2.1 (Int32.not_le.mpr c9)) | (exact absurd e2.2 (Int32.not_lt.mpr c18)))
set_option maxHeartbeats 4000000 in
set_option maxRecDepth 100000 in
theorem sp_X7_isSide {l : Launch} {K : mhX} {Φ : mhQ} {S : List mhS} {F : mhF} {I : mhI} {J : mhJ} {P : mhP} {nh : Nat} {wd hg : Nat → Nat} (hM : mhHR S F I nh wd hg) {x y : Int32} (ht : ∀ j r, j < nh → r < gSides (wd j) (hg j) → x = nI j → y = nI r → Φ (some (.int 1)) S F I J P) (hf : ¬ vHS nh wd hg x y → Φ (some (.int 0)) S F I J P) : mhOk l K mX7_isSide [.ref 21, .int x, .int y] S F I J P Φ := by
  refine mhOk.of (by decide) (by decide) rfl (Nat.le_of_ble_eq_true rfl) ?_
  refine mh_aload_0 dX7_isSide_0 (q := 1) rfl ?_
  refine mh_iload_1 dX7_isSide_1 (q := 2) rfl ?_
  refine mh_callV1 ca_X7_isSide_2 (shX7_0 hM.1) (q := 5) rfl (by simp [Value.category]) ⟨Nat.zero_le _, Nat.zero_le _⟩ ?_
  refine sp_X7_isHouse hM (fun j hj ej => ?_) (fun hk => ?_)
  · skip
    subst ej
    refine mh_if_eq dX7_isSide_5 (tgt := 25) (q := 8) rfl rfl (fun hh => False.elim (by revert hh; decide)) (fun _ => ?_)
    refine mh_iload_2 dX7_isSide_8 (q := 9) rfl ?_
    refine mh_if_lt dX7_isSide_9 (tgt := 25) (q := 12) rfl rfl (fun c9 => ?_) (fun c9 => ?_)
    · skip
      refine mh_iconst_0 dX7_isSide_25 (q := 26) rfl ?_
      refine mh_ireturn dX7_isSide_26 rfl rfl ?_
      first
      | exact hf (fun ⟨j, hj, e, _⟩ => hk ⟨j, hj, e⟩)
      | (refine hf (fun ⟨i, hi, e, e1⟩ => ?_)
         have e4 : j = i := (nI_eq (by have := hM.2.1; omega) (by have := hM.2.1; omega)).mp e
         subst e4
         have e2 := (mh_lt (n := gSides (wd j) (hg j)) (by have := gBd (hM.2.2.2 j hj).2.1; omega)).mpr e1
         first | (exact absurd e2.1 (Int32.not_le.mpr c9)) | (exact absurd e2.2 (Int32.not_lt.mpr c18)))
    · skip
      refine mh_iload_2 dX7_isSide_12 (q := 13) rfl ?_
      refine mh_aload_0 dX7_isSide_13 (q := 14) rfl ?_
      refine mh_iload_1 dX7_isSide_14 (q := 15) rfl ?_
      refine mh_callV1 ca_X7_isSide_15 (shX7_0 hM.1) (q := 18) rfl (by simp [Value.category]) ⟨Nat.zero_le _, Nat.zero_le _⟩ ?_
      refine sp_X7_sides hM.1 (hM.2.2.2 j hj) ?_
      refine mh_icmp_ge dX7_isSide_18 (tgt := 25) (q := 21) rfl rfl (fun c18 => ?_) (fun c18 => ?_)
      · skip
        refine mh_iconst_0 dX7_isSide_25 (q := 26) rfl ?_
        refine mh_ireturn dX7_isSide_26 rfl rfl ?_
        first
        | exact hf (fun ⟨j, hj, e, _⟩ => hk ⟨j, hj, e⟩)
        | (refine hf (fun ⟨i, hi, e, e1⟩ => ?_)
           have e4 : j = i := (nI_eq (by have := hM.2.1; omega) (by have := hM.2.1; omega)).mp e
           subst e4
           have e2 := (mh_lt (n := gSides (wd j) (hg j)) (by have := gBd (hM.2.2.2 j hj).2.1; omega)).mpr e1
           first | (exact absurd e2.1 (Int32.not_le.mpr c9)) | (exact absurd e2.2 (Int32.not_lt.mpr c18)))
      · skip
        refine mh_iconst_1 dX7_isSide_21 (q := 22) rfl ?_
        refine mh_goto dX7_isSide_22 (tgt := 26) rfl ?_
        refine mh_ireturn dX7_isSide_26 rfl rfl ?_
        obtain ⟨r, hr, e⟩ := (mh_lt (n := gSides (wd j) (hg j)) (by have := gBd (hM.2.2.2 j hj).2.1; omega)).mp ⟨Int32.not_lt.mp c9, Int32.not_le.mp c18⟩
        exact ht j r hj hr rfl e
  · skip
    refine mh_if_eq dX7_isSide_5 (tgt := 25) (q := 8) rfl rfl (fun _ => ?_) (fun hh => False.elim (by revert hh; decide))
    refine mh_iconst_0 dX7_isSide_25 (q := 26) rfl ?_
    refine mh_ireturn dX7_isSide_26 rfl rfl ?_
    first
    | exact hf (fun ⟨j, hj, e, _⟩ => hk ⟨j, hj, e⟩)
    | (refine hf (fun ⟨i, hi, e, e1⟩ => ?_)
       have e4 : j = i := (nI_eq (by have := hM.2.1; omega) (by have := hM.2.1; omega)).mp e
       subst e4
       have e2 := (mh_lt (n := gSides (wd j) (hg j)) (by have := gBd (hM.2.2.2 j hj).2.1; omega)).mpr e1
       first | (exact absurd e2.1 (Int32.not_le.mpr c9)) | (exact absurd e2.2 (Int32.not_lt.mpr c18)))
set_option maxHeartbeats 4000000 in
set_option maxRecDepth 100000 in
theorem lp_X1_panesOf {l : Launch} {K : mhX} {kc ks : Nat} {Φ : mhQ} {S : List mhS} {F : mhF} {I : mhI} {J : mhJ} {P : mhP} {a w h : Nat} (hH : mhHs S F I a w h) {v : Int32} (hΦ : Φ (some (.int (mhCnt (fun k => I (a + 1) (nI k)) v (gSides w h)))) S F I J P) : ∀ (m i : Nat), i + m = gSides w h → mhV l K mX1_panesOf kc ks Φ 4 [some (.ref a), some (.int v), some (.int (mhCnt (fun k => I (a + 1) (nI k)) v i)), some (.int (nI i))] [] S F I J P := by
  have hb := gBd hH.2.1
  intro m
  induction m with
  | zero =>
    intro i hi
    obtain rfl : i = gSides w h := by omega
    refine mh_iload_3 dX1_panesOf_4 (q := 5) rfl ?_
    refine mh_aload_0 dX1_panesOf_5 (q := 6) rfl ?_
    refine mh_getI fl_X1_68 dX1_panesOf_6 (q := 9) rfl (shX1_0 hH.1) rfl ?_
    rw [hH.2.2.2.2.2.1]
    refine mh_icmp_ge dX1_panesOf_9 (tgt := 31) (q := 12) rfl rfl (fun _ => ?_) (fun hh => absurd (nI_le (Nat.le_refl _) (by omega)) hh)
    refine mh_iload_2 dX1_panesOf_31 (q := 32) rfl ?_
    refine mh_ireturn dX1_panesOf_32 rfl rfl ?_
    exact hΦ
  | succ m ih =>
    intro i hi
    refine mh_iload_3 dX1_panesOf_4 (q := 5) rfl ?_
    refine mh_aload_0 dX1_panesOf_5 (q := 6) rfl ?_
    refine mh_getI fl_X1_68 dX1_panesOf_6 (q := 9) rfl (shX1_0 hH.1) rfl ?_
    rw [hH.2.2.2.2.2.1]
    refine mh_icmp_ge dX1_panesOf_9 (tgt := 31) (q := 12) rfl rfl (fun hh => absurd hh (nI_ge (by omega) (by omega))) (fun _ => ?_)
    refine mh_aload_0 dX1_panesOf_12 (q := 13) rfl ?_
    refine mh_getR fl_X1_9 dX1_panesOf_13 (q := 16) rfl (shX1_0 hH.1) rfl ?_
    refine mh_iload_3 dX1_panesOf_16 (q := 17) rfl ?_
    refine mh_iald dX1_panesOf_17 (q := 18) rfl (shX1_1 hH.1) (vp_in_nI (by omega) (by decide)) ?_
    refine mh_iload_1 dX1_panesOf_18 (q := 19) rfl ?_
    refine mh_icmp_ne dX1_panesOf_19 (tgt := 25) (q := 22) rfl rfl (fun c19 => ?_) (fun c19 => ?_)
    · skip
      refine mh_iinc_3 (v := 1) dX1_panesOf_25 (q := 28) rfl (by decide) ?_
      refine mh_goto dX1_panesOf_28 (tgt := 4) rfl ?_
      have h9 := ih (i + 1) (by omega)
      rw [mhCnt] at h9
      first | (rw [if_pos c19] at h9; rw [nI_1]; exact h9) | (rw [if_neg c19, Int32.add_zero] at h9; rw [nI_1]; exact h9)
    · skip
      refine mh_iinc_2 (v := 1) dX1_panesOf_22 (q := 25) rfl (by decide) ?_
      refine mh_iinc_3 (v := 1) dX1_panesOf_25 (q := 28) rfl (by decide) ?_
      refine mh_goto dX1_panesOf_28 (tgt := 4) rfl ?_
      have h9 := ih (i + 1) (by omega)
      rw [mhCnt] at h9
      first | (rw [if_pos c19] at h9; rw [nI_1]; exact h9) | (rw [if_neg c19, Int32.add_zero] at h9; rw [nI_1]; exact h9)
set_option maxHeartbeats 4000000 in
set_option maxRecDepth 100000 in
theorem sp_X1_panesOf {l : Launch} {K : mhX} {Φ : mhQ} {S : List mhS} {F : mhF} {I : mhI} {J : mhJ} {P : mhP} {a w h : Nat} (hH : mhHs S F I a w h) {v : Int32} (hΦ : Φ (some (.int (mhCnt (fun k => I (a + 1) (nI k)) v (gSides w h)))) S F I J P) : mhOk l K mX1_panesOf [.ref a, .int v] S F I J P Φ := by
  refine mhOk.of (by decide) (by decide) rfl (Nat.le_of_ble_eq_true rfl) ?_
  refine mh_iconst_0 dX1_panesOf_0 (q := 1) rfl ?_
  refine mh_istore_2 dX1_panesOf_1 (q := 2) rfl ?_
  refine mh_iconst_0 dX1_panesOf_2 (q := 3) rfl ?_
  refine mh_istore_3 dX1_panesOf_3 (q := 4) rfl ?_
  exact lp_X1_panesOf (kc := mX1_panesOf.2.2.2.2.cells) (ks := mX1_panesOf.2.2.2.2.slots) hH hΦ _ 0 (Nat.zero_add _)
set_option maxHeartbeats 4000000 in
set_option maxRecDepth 100000 in
theorem lp_X1_smears {l : Launch} {K : mhX} {kc ks : Nat} {Φ : mhQ} {S : List mhS} {F : mhF} {I : mhI} {J : mhJ} {P : mhP} {a w h : Nat} (hH : mhHs S F I a w h) (hΦ : Φ (some (.int (mhSum (fun k => I (a + 2) (nI k)) (gSides w h)))) S F I J P) : ∀ (m i : Nat), i + m = gSides w h → mhV l K mX1_smears kc ks Φ 4 [some (.ref a), some (.int (mhSum (fun k => I (a + 2) (nI k)) i)), some (.int (nI i))] [] S F I J P := by
  have hb := gBd hH.2.1
  intro m
  induction m with
  | zero =>
    intro i hi
    obtain rfl : i = gSides w h := by omega
    refine mh_iload_2 dX1_smears_4 (q := 5) rfl ?_
    refine mh_aload_0 dX1_smears_5 (q := 6) rfl ?_
    refine mh_getI fl_X1_68 dX1_smears_6 (q := 9) rfl (shX1_0 hH.1) rfl ?_
    rw [hH.2.2.2.2.2.1]
    refine mh_icmp_ge dX1_smears_9 (tgt := 27) (q := 12) rfl rfl (fun _ => ?_) (fun hh => absurd (nI_le (Nat.le_refl _) (by omega)) hh)
    refine mh_iload_1 dX1_smears_27 (q := 28) rfl ?_
    refine mh_ireturn dX1_smears_28 rfl rfl ?_
    exact hΦ
  | succ m ih =>
    intro i hi
    refine mh_iload_2 dX1_smears_4 (q := 5) rfl ?_
    refine mh_aload_0 dX1_smears_5 (q := 6) rfl ?_
    refine mh_getI fl_X1_68 dX1_smears_6 (q := 9) rfl (shX1_0 hH.1) rfl ?_
    rw [hH.2.2.2.2.2.1]
    refine mh_icmp_ge dX1_smears_9 (tgt := 27) (q := 12) rfl rfl (fun hh => absurd hh (nI_ge (by omega) (by omega))) (fun _ => ?_)
    refine mh_iload_1 dX1_smears_12 (q := 13) rfl ?_
    refine mh_aload_0 dX1_smears_13 (q := 14) rfl ?_
    refine mh_getR fl_X1_15 dX1_smears_14 (q := 17) rfl (shX1_0 hH.1) rfl ?_
    refine mh_iload_2 dX1_smears_17 (q := 18) rfl ?_
    refine mh_iald dX1_smears_18 (q := 19) rfl (shX1_2 hH.1) (vp_in_nI (by omega) (by decide)) ?_
    refine mh_iadd dX1_smears_19 (q := 20) rfl ?_
    refine mh_istore_1 dX1_smears_20 (q := 21) rfl ?_
    refine mh_iinc_2 (v := 1) dX1_smears_21 (q := 24) rfl (by decide) ?_
    refine mh_goto dX1_smears_24 (tgt := 4) rfl ?_
    rw [nI_1]
    exact ih (i + 1) (by omega)
set_option maxHeartbeats 4000000 in
set_option maxRecDepth 100000 in
theorem sp_X1_smears {l : Launch} {K : mhX} {Φ : mhQ} {S : List mhS} {F : mhF} {I : mhI} {J : mhJ} {P : mhP} {a w h : Nat} (hH : mhHs S F I a w h) (hΦ : Φ (some (.int (mhSum (fun k => I (a + 2) (nI k)) (gSides w h)))) S F I J P) : mhOk l K mX1_smears [.ref a] S F I J P Φ := by
  refine mhOk.of (by decide) (by decide) rfl (Nat.le_of_ble_eq_true rfl) ?_
  refine mh_iconst_0 dX1_smears_0 (q := 1) rfl ?_
  refine mh_istore_1 dX1_smears_1 (q := 2) rfl ?_
  refine mh_iconst_0 dX1_smears_2 (q := 3) rfl ?_
  refine mh_istore_2 dX1_smears_3 (q := 4) rfl ?_
  exact lp_X1_smears (kc := mX1_smears.2.2.2.2.cells) (ks := mX1_smears.2.2.2.2.slots) hH hΦ _ 0 (Nat.zero_add _)
set_option maxHeartbeats 4000000 in
set_option maxRecDepth 100000 in
theorem sp_X1_become {l : Launch} {K : mhX} {Φ : mhQ} {S : List mhS} {F : mhF} {I : mhI} {J : mhJ} {P : mhP} {a w h : Nat} (hH : mhHs S F I a w h) {k : Nat} (hk : k < gSides w h) {v : Int32} (hΦ : Φ (some (.int (I (a + 1) (nI k)))) S F (if I (a + 1) (nI k) = v then mhUI I (a + 1) (nI k) v else mhUI (mhUI I (a + 1) (nI k) v) (a + 2) (nI k) 0) J P) : mhOk l K mX1_become [.ref a, .int (nI k), .int v] S F I J P Φ := by
  refine mhOk.of (by decide) (by decide) rfl (Nat.le_of_ble_eq_true rfl) ?_
  have hb := gBd hH.2.1
  refine mh_aload_0 dX1_become_0 (q := 1) rfl ?_
  refine mh_getR fl_X1_9 dX1_become_1 (q := 4) rfl (shX1_0 hH.1) rfl ?_
  refine mh_iload_1 dX1_become_4 (q := 5) rfl ?_
  refine mh_iald dX1_become_5 (q := 6) rfl (shX1_1 hH.1) (vp_in_nI (by omega) (by decide)) ?_
  refine mh_istore_3 dX1_become_6 (q := 7) rfl ?_
  refine mh_aload_0 dX1_become_7 (q := 8) rfl ?_
  refine mh_getR fl_X1_9 dX1_become_8 (q := 11) rfl (shX1_0 hH.1) rfl ?_
  refine mh_iload_1 dX1_become_11 (q := 12) rfl ?_
  refine mh_iload_2 dX1_become_12 (q := 13) rfl ?_
  refine mh_iast dX1_become_13 (q := 14) rfl (shX1_1 hH.1) (by decide) (vp_in_nI (by omega) (by decide)) ?_
  refine mh_iload_3 dX1_become_14 (q := 15) rfl ?_
  refine mh_iload_2 dX1_become_15 (q := 16) rfl ?_
  refine mh_icmp_eq dX1_become_16 (tgt := 26) (q := 19) rfl rfl (fun c16 => ?_) (fun c16 => ?_)
  · skip
    refine mh_iload_3 dX1_become_26 (q := 27) rfl ?_
    refine mh_ireturn dX1_become_27 rfl rfl ?_
    first | (rw [if_pos c16] at hΦ; exact hΦ) | (rw [if_neg c16] at hΦ; exact hΦ)
  · skip
    refine mh_aload_0 dX1_become_19 (q := 20) rfl ?_
    refine mh_getR fl_X1_15 dX1_become_20 (q := 23) rfl (shX1_0 hH.1) rfl ?_
    refine mh_iload_1 dX1_become_23 (q := 24) rfl ?_
    refine mh_iconst_0 dX1_become_24 (q := 25) rfl ?_
    refine mh_iast dX1_become_25 (q := 26) rfl (shX1_2 hH.1) (by decide) (vp_in_nI (by omega) (by decide)) ?_
    refine mh_iload_3 dX1_become_26 (q := 27) rfl ?_
    refine mh_ireturn dX1_become_27 rfl rfl ?_
    first | (rw [if_pos c16] at hΦ; exact hΦ) | (rw [if_neg c16] at hΦ; exact hΦ)
set_option maxHeartbeats 4000000 in
set_option maxRecDepth 100000 in
theorem lp_X7_countOf {l : Launch} {K : mhX} {kc ks : Nat} {Φ : mhQ} {S : List mhS} {F : mhF} {I : mhI} {J : mhJ} {P : mhP} (h7 : mhKX7 S) {j w h : Nat} (hm : mhHm I j w h) {v : Int32} (hΦ : Φ (some (.int (mhCnt (fun k => I 27 (nI (50 * j + k))) v (gSides w h)))) S F I J P) : ∀ (m i : Nat), i + m = gSides w h → mhV l K mX7_countOf kc ks Φ 5 [some (.ref 21), some (.int (nI j)), some (.int v), some (.int (mhCnt (fun k => I 27 (nI (50 * j + k))) v i)), some (.int (nI i))] [] S F I J P := by
  have hb := gBd hm.2.1
  intro m
  induction m with
  | zero =>
    intro i hi
    obtain rfl : i = gSides w h := by omega
    refine mh_iload_4 dX7_countOf_5 (q := 7) rfl ?_
    refine mh_aload_0 dX7_countOf_7 (q := 8) rfl ?_
    refine mh_iload_1 dX7_countOf_8 (q := 9) rfl ?_
    refine mh_callV1 ca_X7_countOf_9 (shX7_0 h7) (q := 12) rfl (by simp [Value.category]) ⟨Nat.zero_le _, Nat.zero_le _⟩ ?_
    refine sp_X7_sides h7 hm ?_
    refine mh_icmp_ge dX7_countOf_12 (tgt := 45) (q := 15) rfl rfl (fun _ => ?_) (fun hh => absurd (nI_le (Nat.le_refl _) (by omega)) hh)
    refine mh_iload_3 dX7_countOf_45 (q := 46) rfl ?_
    refine mh_ireturn dX7_countOf_46 rfl rfl ?_
    exact hΦ
  | succ m ih =>
    intro i hi
    refine mh_iload_4 dX7_countOf_5 (q := 7) rfl ?_
    refine mh_aload_0 dX7_countOf_7 (q := 8) rfl ?_
    refine mh_iload_1 dX7_countOf_8 (q := 9) rfl ?_
    refine mh_callV1 ca_X7_countOf_9 (shX7_0 h7) (q := 12) rfl (by simp [Value.category]) ⟨Nat.zero_le _, Nat.zero_le _⟩ ?_
    refine sp_X7_sides h7 hm ?_
    refine mh_icmp_ge dX7_countOf_12 (tgt := 45) (q := 15) rfl rfl (fun hh => absurd hh (nI_ge (by omega) (by omega))) (fun _ => ?_)
    refine mh_iload_3 dX7_countOf_15 (q := 16) rfl ?_
    refine mh_aload_0 dX7_countOf_16 (q := 17) rfl ?_
    refine mh_getR fl_X7_25 dX7_countOf_17 (q := 20) rfl (shX7_0 h7) rfl ?_
    refine mh_bipush (v := 50) dX7_countOf_20 (q := 22) rfl (by decide) ?_
    refine mh_iload_1 dX7_countOf_22 (q := 23) rfl ?_
    refine mh_imul dX7_countOf_23 (q := 24) rfl ?_
    refine mh_iload_4 dX7_countOf_24 (q := 26) rfl ?_
    refine mh_iadd dX7_countOf_26 (q := 27) rfl ?_
    refine mh_iald dX7_countOf_27 (q := 28) rfl (shX7_6 h7) (by rw [mh_e50]; exact vp_in_nI (by have := hm.1; omega) (by decide)) ?_
    rw [mh_e50]
    refine mh_iload_2 dX7_countOf_28 (q := 29) rfl ?_
    refine mh_icmp_ne dX7_countOf_29 (tgt := 36) (q := 32) rfl rfl (fun c29 => ?_) (fun c29 => ?_)
    · skip
      refine mh_iconst_0 dX7_countOf_36 (q := 37) rfl ?_
      refine mh_iadd dX7_countOf_37 (q := 38) rfl ?_
      refine mh_istore_3 dX7_countOf_38 (q := 39) rfl ?_
      refine mh_iinc_4 (v := 1) dX7_countOf_39 (q := 42) rfl (by decide) ?_
      refine mh_goto dX7_countOf_42 (tgt := 5) rfl ?_
      have h9 := ih (i + 1) (by omega)
      rw [mhCnt] at h9
      first | (rw [if_pos c29] at h9; rw [nI_1]; exact h9) | (rw [if_neg c29] at h9; rw [nI_1]; exact h9)
    · skip
      refine mh_iconst_1 dX7_countOf_32 (q := 33) rfl ?_
      refine mh_goto dX7_countOf_33 (tgt := 37) rfl ?_
      refine mh_iadd dX7_countOf_37 (q := 38) rfl ?_
      refine mh_istore_3 dX7_countOf_38 (q := 39) rfl ?_
      refine mh_iinc_4 (v := 1) dX7_countOf_39 (q := 42) rfl (by decide) ?_
      refine mh_goto dX7_countOf_42 (tgt := 5) rfl ?_
      have h9 := ih (i + 1) (by omega)
      rw [mhCnt] at h9
      first | (rw [if_pos c29] at h9; rw [nI_1]; exact h9) | (rw [if_neg c29] at h9; rw [nI_1]; exact h9)
set_option maxHeartbeats 4000000 in
set_option maxRecDepth 100000 in
theorem sp_X7_countOf {l : Launch} {K : mhX} {Φ : mhQ} {S : List mhS} {F : mhF} {I : mhI} {J : mhJ} {P : mhP} (h7 : mhKX7 S) {j w h : Nat} (hm : mhHm I j w h) {v : Int32} (hΦ : Φ (some (.int (mhCnt (fun k => I 27 (nI (50 * j + k))) v (gSides w h)))) S F I J P) : mhOk l K mX7_countOf [.ref 21, .int (nI j), .int v] S F I J P Φ := by
  refine mhOk.of (by decide) (by decide) rfl (Nat.le_of_ble_eq_true rfl) ?_
  refine mh_iconst_0 dX7_countOf_0 (q := 1) rfl ?_
  refine mh_istore_3 dX7_countOf_1 (q := 2) rfl ?_
  refine mh_iconst_0 dX7_countOf_2 (q := 3) rfl ?_
  refine mh_istore_4 dX7_countOf_3 (q := 5) rfl ?_
  exact lp_X7_countOf (kc := mX7_countOf.2.2.2.2.cells) (ks := mX7_countOf.2.2.2.2.slots) h7 hm hΦ _ 0 (Nat.zero_add _)
