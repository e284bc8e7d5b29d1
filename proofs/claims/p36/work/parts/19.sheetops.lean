/-! sheets: the calls -/
abbrev mhSc (k : Int32) : Prop := 0 ≤ k ∧ k ≤ 3
abbrev mhSo (k : Int32) : Prop := 0 ≤ k ∧ k ≤ 2
/-- the class's four sheets -/
def mhSh (S : List mhS) (F : mhF) (P : mhP) : Prop := ∀ j, j < 4 → P 1 (nI j) = some (13 + 2 * j) ∧ mhKX3 S (13 + 2 * j) ∧ 0 ≤ F (13 + 2 * j) 2 ∧ F (13 + 2 * j) 2 ≤ 60
theorem mh_clF0 {Φ : mhQ} {r r' f : Int32} {a k : Nat} {S : List mhS} {F : mhF} {I : mhI} {J : mhJ} {P : mhP} (h : Φ (some (.int r)) S (mhUF F a k f) I J P) (e : r = r') (ef : f = 0) : Φ (some (.int r')) S (mhUF F a k 0) I J P := by subst e; subst ef; exact h
theorem mhUF_uu {F : mhF} {a k : Nat} {x y : Int32} : mhUF (mhUF F a k x) a k y = mhUF F a k y := by
  funext b j
  unfold mhUF
  by_cases h : b = a ∧ j = k
  · rw [if_pos h, if_pos h]
  · rw [if_neg h, if_neg h, if_neg h]
theorem mh_clF1 {Φ : mhQ} {r r' f x : Int32} {a k : Nat} {S : List mhS} {F : mhF} {I : mhI} {J : mhJ} {P : mhP} (h : Φ (some (.int r)) S (mhUF F a k f) I J P) (e : r = r') (ef : f = x) : Φ (some (.int r')) S (mhUF (mhUF F a k 0) a k x) I J P := by subst e; subst ef; rw [mhUF_uu]; exact h
theorem mh_clL0 {Φ : mhQ} {r r' : Int64} {f : Int32} {a k : Nat} {S : List mhS} {F : mhF} {I : mhI} {J : mhJ} {P : mhP} (h : Φ (some (.long r)) S (mhUF F a k f) I J P) (e : r = r') (ef : f = 0) : Φ (some (.long r')) S (mhUF F a k 0) I J P := by subst e; subst ef; exact h
theorem mh_clL1 {Φ : mhQ} {r r' : Int64} {f x : Int32} {a k : Nat} {S : List mhS} {F : mhF} {I : mhI} {J : mhJ} {P : mhP} (h : Φ (some (.long r)) S (mhUF F a k f) I J P) (e : r = r') (ef : f = x) : Φ (some (.long r')) S (mhUF (mhUF F a k 0) a k x) I J P := by subst e; subst ef; rw [mhUF_uu]; exact h
theorem fa_lt (a b : Int32) : a < b ↔ a.toInt < b.toInt := Int32.lt_iff_toInt_lt
theorem fa_le (a b : Int32) : a ≤ b ↔ a.toInt ≤ b.toInt := Int32.le_iff_toInt_le
theorem mh_of2 {x M : Int32} {n : Nat} (hM : M.toInt = n) (h : 0 ≤ x) (h5 : x ≤ M) : ∃ j : Nat, j < n + 1 ∧ x = nI j := by
  obtain ⟨j, hj, e⟩ := nI_of2 hM (Int32.not_lt.mpr h) h5
  exact ⟨j, by omega, e⟩
theorem mh_vp {i N : Int32} {n : Nat} (hN : N.toInt = n) (h0 : 0 ≤ i) (h1 : i < N) : vp_in i n := by
  rw [vp_in_iff]
  rw [fa_lt, hN] at h1
  rw [fa_le] at h0
  have z : (0 : Int32).toInt = 0 := rfl
  rw [z] at h0
  exact ⟨h0, h1⟩
/-- a stretch of an array set to one number -/
def mhFillR (I : mhI) (a lo n : Nat) (v : Int32) : mhI := fun b j => if b = a ∧ (lo : Int) ≤ j.toInt ∧ j.toInt < (lo : Int) + n then v else I b j
theorem mhFillR_0 {I : mhI} {a lo : Nat} {v : Int32} : mhFillR I a lo 0 v = I := by
  funext b j
  exact if_neg (by rintro ⟨-, h1, h2⟩; omega)
theorem mhFillR_s {I : mhI} {a lo i : Nat} {v : Int32} (hi : lo + i + 1 < 2 ^ 31) : mhUI (mhFillR I a lo i v) a (nI (lo + i)) v = mhFillR I a lo (i + 1) v := by
  funext b j
  have hj : j = nI (lo + i) ↔ j.toInt = ((lo + i : Nat) : Int) := by rw [fa_eq, nI_toInt (by omega)]
  unfold mhUI mhFillR
  by_cases h1 : b = a <;> by_cases h2 : j.toInt = ((lo + i : Nat) : Int) <;> grind
def mhShR (k so n : Int32) : Int32 := if ¬ mhSc k then -1 else if ¬ mhSo so ∨ 60 < n then -2 else if n < 0 then -14 else 1
def mhShF (k so n : Int32) : Int32 := if mhSc k ∧ mhSo so ∧ n < 0 then 4 else 0
def mhShOk (k so n : Int32) : Prop := mhSc k ∧ mhSo so ∧ n ≤ 60 ∧ 0 ≤ n
set_option maxHeartbeats 4000000 in
set_option maxRecDepth 100000 in
theorem sp_X6_sheetAt {l : Launch} {K : mhX} {Φ : mhQ} {S : List mhS} {F F0 : mhF} {I : mhI} {J : mhJ} {P : mhP} (h6 : mhKX6 S) (hP : mhSh S F0 P) {k : Int32} (hn : ¬ mhSc k → Φ (some .null) S F I J P) (ht : ∀ j, j < 4 → k = nI j → mhSc k → Φ (some (.ref (13 + 2 * j))) S F I J P) : mhOk l K mX6_sheetAt [.ref 0, .int k] S F I J P Φ := by
  refine mhOk.of (by decide) (by decide) rfl (Nat.le_of_ble_eq_true rfl) ?_
  refine mh_iload_1 dX6_sheetAt_0 (q := 1) rfl ?_
  refine mh_if_lt dX6_sheetAt_1 (tgt := 22) (q := 4) rfl rfl (fun c1 => ?_) (fun c1 => ?_)
  · skip
    refine mh_aconst_null dX6_sheetAt_22 (q := 23) rfl ?_
    refine mh_areturnN dX6_sheetAt_23 rfl ?_
    exact hn (by grind)
  · skip
    refine mh_iload_1 dX6_sheetAt_4 (q := 5) rfl ?_
    refine mh_aload_0 dX6_sheetAt_5 (q := 6) rfl ?_
    refine mh_getR fl_X6_11 dX6_sheetAt_6 (q := 9) rfl (shX6_0 h6) rfl ?_
    refine mh_alen (v := 4) dX6_sheetAt_9 (q := 10) rfl (shX6_1 h6) (by decide) rfl ?_
    refine mh_icmp_ge dX6_sheetAt_10 (tgt := 22) (q := 13) rfl rfl (fun c10 => ?_) (fun c10 => ?_)
    · skip
      refine mh_aconst_null dX6_sheetAt_22 (q := 23) rfl ?_
      refine mh_areturnN dX6_sheetAt_23 rfl ?_
      exact hn (by grind)
    · skip
      have hk : mhSc k := by grind
      obtain ⟨j, hj, rfl⟩ := mh_of2 (n := 3) rfl hk.1 hk.2
      refine mh_aload_0 dX6_sheetAt_13 (q := 14) rfl ?_
      refine mh_getR fl_X6_11 dX6_sheetAt_14 (q := 17) rfl (shX6_0 h6) rfl ?_
      refine mh_iload_1 dX6_sheetAt_17 (q := 18) rfl ?_
      refine mh_aald dX6_sheetAt_18 (q := 19) rfl (Or.inl ⟨rfl, rfl⟩) (shX6_1 h6) (vp_in_nI hj (by decide)) (hP j hj).1 ?_
      refine mh_goto dX6_sheetAt_19 (tgt := 23) rfl ?_
      refine mh_areturn dX6_sheetAt_23 rfl ?_
      exact ht j hj rfl hk
set_option maxHeartbeats 4000000 in
set_option maxRecDepth 100000 in
theorem sp_X6_sheet {l : Launch} {K : mhX} {Φ : mhQ} {S : List mhS} {F : mhF} {I : mhI} {J : mhJ} {P : mhP} (h6 : mhKX6 S) (hP : mhSh S F P) {k so n : Int32} (hb : ¬ mhShOk k so n → Φ (some (.int (mhShR k so n))) S (mhUF F 0 12 (mhShF k so n)) I J P) (ho : ∀ j, j < 4 → k = nI j → mhShOk k so n → Φ (some (.int 1)) S (mhUF (mhUF (mhUF F 0 12 0) (13 + 2 * j) 1 so) (13 + 2 * j) 2 n) (mhFill I (13 + 2 * j + 1) 60 0) J P) : mhOk l K mX6_sheet [.ref 0, .int k, .int so, .int n] S F I J P Φ := by
  refine mhOk.of (by decide) (by decide) rfl (Nat.le_of_ble_eq_true rfl) ?_
  refine mh_aload_0 dX6_sheet_0 (q := 1) rfl ?_
  refine mh_iconst_0 dX6_sheet_1 (q := 2) rfl ?_
  refine mh_putI (Or.inl fw_X6_65) rfl rfl dX6_sheet_2 (q := 5) rfl (shX6_0 h6) rfl ?_
  refine mh_aload_0 dX6_sheet_5 (q := 6) rfl ?_
  refine mh_iload_1 dX6_sheet_6 (q := 7) rfl ?_
  refine mh_callV1 ca_X6_sheet_7 (shX6_0 h6) (q := 10) rfl (by simp [Value.category]) ⟨Nat.zero_le _, Nat.zero_le _⟩ ?_
  refine sp_X6_sheetAt h6 hP (fun hk => ?_) (fun j hj ej hk => ?_)
  · skip
    refine mh_astoreN_4 dX6_sheet_10 (q := 12) rfl ?_
    refine mh_aloadN_4 dX6_sheet_12 (q := 14) rfl ?_
    refine mh_ifnonnullN dX6_sheet_14 (q := 17) rfl ?_
    refine mh_iconst_m1 dX6_sheet_17 (q := 18) rfl ?_
    refine mh_ireturn dX6_sheet_18 rfl rfl ?_
    first | exact mh_clF0 (hb (by grind [mhShR, mhShF, mhShOk])) (by grind [mhShR, mhShF, mhShOk]) (by grind [mhShR, mhShF, mhShOk]) | exact mh_clF1 (hb (by grind [mhShR, mhShF, mhShOk])) (by grind [mhShR, mhShF, mhShOk]) (by grind [mhShR, mhShF, mhShOk])
  · skip
    subst ej
    refine mh_astore_4 dX6_sheet_10 (q := 12) rfl ?_
    refine mh_aload_4 dX6_sheet_12 (q := 14) rfl ?_
    refine mh_ifnonnullR dX6_sheet_14 (tgt := 19) rfl ?_
    refine mh_iload_2 dX6_sheet_19 (q := 20) rfl ?_
    refine mh_callS1 ca_X6_sheet_20 (q := 23) rfl (by simp [Value.category]) ⟨Nat.zero_le _, Nat.zero_le _⟩ ?_
    refine sp_X6_isSort (fun c20 => ?_) (fun c20 => ?_)
    · skip
      refine mh_if_eq dX6_sheet_23 (tgt := 32) (q := 26) rfl rfl (fun hh => False.elim (by revert hh; decide)) (fun _ => ?_)
      refine mh_iload_3 dX6_sheet_26 (q := 27) rfl ?_
      refine mh_bipush (v := 60) dX6_sheet_27 (q := 29) rfl (by decide) ?_
      refine mh_icmp_le dX6_sheet_29 (tgt := 35) (q := 32) rfl rfl (fun c29 => ?_) (fun c29 => ?_)
      · skip
        refine mh_iload_3 dX6_sheet_35 (q := 36) rfl ?_
        refine mh_if_ge dX6_sheet_36 (tgt := 45) (q := 39) rfl rfl (fun c36 => ?_) (fun c36 => ?_)
        · skip
          refine mh_aload_4 dX6_sheet_45 (q := 47) rfl ?_
          refine mh_iload_2 dX6_sheet_47 (q := 48) rfl ?_
          refine mh_iload_3 dX6_sheet_48 (q := 49) rfl ?_
          refine mh_callV2 ca_X6_sheet_49 (shX3_0 (hP j hj).2.1) (q := 52) rfl (by simp [Value.category]) ⟨Nat.zero_le _, Nat.zero_le _⟩ ?_
          refine sp_X3_renew (hP j hj).2.1 ?_
          refine mh_iconst_1 dX6_sheet_52 (q := 53) rfl ?_
          refine mh_ireturn dX6_sheet_53 rfl rfl ?_
          exact ho j hj rfl (by grind [mhShR, mhShF, mhShOk])
        · skip
          refine mh_aload_0 dX6_sheet_39 (q := 40) rfl ?_
          refine mh_iconst_4 dX6_sheet_40 (q := 41) rfl ?_
          refine mh_callV1 ca_X6_sheet_41 (shX6_0 h6) (q := 44) rfl (by simp [Value.category]) ⟨Nat.zero_le _, Nat.zero_le _⟩ ?_
          refine sp_X6_faulted h6 ?_
          refine mh_ireturn dX6_sheet_44 rfl rfl ?_
          first | exact mh_clF0 (hb (by grind [mhShR, mhShF, mhShOk])) (by grind [mhShR, mhShF, mhShOk]) (by grind [mhShR, mhShF, mhShOk]) | exact mh_clF1 (hb (by grind [mhShR, mhShF, mhShOk])) (by grind [mhShR, mhShF, mhShOk]) (by grind [mhShR, mhShF, mhShOk])
      · skip
        refine mh_bipush (v := (-2)) dX6_sheet_32 (q := 34) rfl (by decide) ?_
        refine mh_ireturn dX6_sheet_34 rfl rfl ?_
        first | exact mh_clF0 (hb (by grind [mhShR, mhShF, mhShOk])) (by grind [mhShR, mhShF, mhShOk]) (by grind [mhShR, mhShF, mhShOk]) | exact mh_clF1 (hb (by grind [mhShR, mhShF, mhShOk])) (by grind [mhShR, mhShF, mhShOk]) (by grind [mhShR, mhShF, mhShOk])
    · skip
      refine mh_if_eq dX6_sheet_23 (tgt := 32) (q := 26) rfl rfl (fun _ => ?_) (fun hh => False.elim (by revert hh; decide))
      refine mh_bipush (v := (-2)) dX6_sheet_32 (q := 34) rfl (by decide) ?_
      refine mh_ireturn dX6_sheet_34 rfl rfl ?_
      first | exact mh_clF0 (hb (by grind [mhShR, mhShF, mhShOk])) (by grind [mhShR, mhShF, mhShOk]) (by grind [mhShR, mhShF, mhShOk]) | exact mh_clF1 (hb (by grind [mhShR, mhShF, mhShOk])) (by grind [mhShR, mhShF, mhShOk]) (by grind [mhShR, mhShF, mhShOk])
def mhPuOk (s len i : Int32) : Prop := ¬ s = -9 ∧ 0 ≤ i ∧ i ≤ len - 1
def mhPuR (s len i : Int32) : Int32 := if s = -9 then -11 else if ¬ (0 ≤ i ∧ i ≤ len - 1) then -13 else 1
def mhPuF (s len i : Int32) : Int32 := if s = -9 then 1 else if ¬ (0 ≤ i ∧ i ≤ len - 1) then 3 else 0
def mhCeF (s len so i : Int32) : Int32 := if ¬ (s = -9 ∨ s = so) then 2 else if s = -9 then 1 else if ¬ (0 ≤ i ∧ i ≤ len - 1) then 3 else 0
def mhCeR (s len so i v : Int32) : Int64 := if mhCeF s len so i = 0 then v.toInt64 else -9223372036854775808
def mhCoF (s1 l1 s2 l2 i j n : Int32) : Int32 := if s1 = -9 ∨ s2 = -9 then 1 else if ¬ s1 = s2 then 2 else if n < 0 ∨ ¬ (0 ≤ i ∧ i ≤ l1 ∧ n ≤ l1 - i) ∨ ¬ (0 ≤ j ∧ j ≤ l2 ∧ n ≤ l2 - j) then 3 else 0
def mhCoR (s1 l1 s2 l2 i j n : Int32) : Int32 := if mhCoF s1 l1 s2 l2 i j n = 0 then n else -10 - mhCoF s1 l1 s2 l2 i j n
theorem mh_cln {i n : Int32} (hi : 0 ≤ i) (hn : 0 ≤ n) (h : n ≤ 60 - i) (h2 : i ≤ 60) : i.toNatClampNeg + n.toNatClampNeg ≤ 60 := by
  obtain ⟨a, ha, rfl⟩ := nI_of (Int32.not_lt.mpr hi)
  obtain ⟨b, hb, rfl⟩ := nI_of (Int32.not_lt.mpr hn)
  have e : (60 : Int32) = nI 60 := rfl
  rw [nI_clamp ha, nI_clamp hb]
  rw [e] at h h2
  have h3 := (nI_leI ha (by decide)).mp h2
  rw [pk_sub h3, nI_leI hb (by omega)] at h
  omega
set_option maxHeartbeats 4000000 in
set_option maxRecDepth 100000 in
theorem sp_X6_put {l : Launch} {K : mhX} {Φ : mhQ} {S : List mhS} {F : mhF} {I : mhI} {J : mhJ} {P : mhP} (h6 : mhKX6 S) (hP : mhSh S F P) {k i v : Int32} (hn : ¬ mhSc k → Φ (some (.int (-1))) S (mhUF F 0 12 0) I J P) (hb : ∀ j, j < 4 → k = nI j → mhSc k → ¬ mhPuOk (F (13 + 2 * j) 1) (F (13 + 2 * j) 2) i → Φ (some (.int (mhPuR (F (13 + 2 * j) 1) (F (13 + 2 * j) 2) i))) S (mhUF F 0 12 (mhPuF (F (13 + 2 * j) 1) (F (13 + 2 * j) 2) i)) I J P) (ho : ∀ j, j < 4 → k = nI j → mhSc k → mhPuOk (F (13 + 2 * j) 1) (F (13 + 2 * j) 2) i → Φ (some (.int 1)) S (mhUF F 0 12 0) (mhUI I (13 + 2 * j + 1) i (mhCut (F (13 + 2 * j) 1) v)) J P) : mhOk l K mX6_put [.ref 0, .int k, .int i, .int v] S F I J P Φ := by
  refine mhOk.of (by decide) (by decide) rfl (Nat.le_of_ble_eq_true rfl) ?_
  refine mh_aload_0 dX6_put_0 (q := 1) rfl ?_
  refine mh_iconst_0 dX6_put_1 (q := 2) rfl ?_
  refine mh_putI (Or.inl fw_X6_65) rfl rfl dX6_put_2 (q := 5) rfl (shX6_0 h6) rfl ?_
  refine mh_aload_0 dX6_put_5 (q := 6) rfl ?_
  refine mh_iload_1 dX6_put_6 (q := 7) rfl ?_
  refine mh_callV1 ca_X6_put_7 (shX6_0 h6) (q := 10) rfl (by simp [Value.category]) ⟨Nat.zero_le _, Nat.zero_le _⟩ ?_
  refine sp_X6_sheetAt h6 hP (fun hk => ?_) (fun j hj ej hk => ?_)
  · skip
    refine mh_astoreN_4 dX6_put_10 (q := 12) rfl ?_
    refine mh_aloadN_4 dX6_put_12 (q := 14) rfl ?_
    refine mh_ifnonnullN dX6_put_14 (q := 17) rfl ?_
    refine mh_iconst_m1 dX6_put_17 (q := 18) rfl ?_
    refine mh_ireturn dX6_put_18 rfl rfl ?_
    exact hn hk
  · skip
    subst ej
    refine mh_astore_4 dX6_put_10 (q := 12) rfl ?_
    refine mh_aload_4 dX6_put_12 (q := 14) rfl ?_
    refine mh_ifnonnullR dX6_put_14 (tgt := 19) rfl ?_
    refine mh_aload_4 dX6_put_19 (q := 21) rfl ?_
    refine mh_callV0 ca_X6_put_21 (shX3_0 (hP j hj).2.1) (q := 24) rfl (by simp [Value.category]) ⟨Nat.zero_le _, Nat.zero_le _⟩ ?_
    refine sp_X3_isNothing (hP j hj).2.1 (fun c21 => ?_) (fun c21 => ?_)
    · skip
      refine mh_if_eq dX6_put_24 (tgt := 33) (q := 27) rfl rfl (fun hh => False.elim (by revert hh; decide)) (fun _ => ?_)
      refine mh_aload_0 dX6_put_27 (q := 28) rfl ?_
      refine mh_iconst_1 dX6_put_28 (q := 29) rfl ?_
      refine mh_callV1 ca_X6_put_29 (shX6_0 h6) (q := 32) rfl (by simp [Value.category]) ⟨Nat.zero_le _, Nat.zero_le _⟩ ?_
      refine sp_X6_faulted h6 ?_
      refine mh_ireturn dX6_put_32 rfl rfl ?_
      first | exact mh_clF0 (hb j hj rfl hk (by grind [mhUF, mhPuR, mhPuF, mhPuOk])) (by grind [mhUF, mhPuR, mhPuF, mhPuOk]) (by grind [mhUF, mhPuR, mhPuF, mhPuOk]) | exact mh_clF1 (hb j hj rfl hk (by grind [mhUF, mhPuR, mhPuF, mhPuOk])) (by grind [mhUF, mhPuR, mhPuF, mhPuOk]) (by grind [mhUF, mhPuR, mhPuF, mhPuOk])
    · skip
      refine mh_if_eq dX6_put_24 (tgt := 33) (q := 27) rfl rfl (fun _ => ?_) (fun hh => False.elim (by revert hh; decide))
      refine mh_iload_2 dX6_put_33 (q := 34) rfl ?_
      refine mh_iconst_0 dX6_put_34 (q := 35) rfl ?_
      refine mh_aload_4 dX6_put_35 (q := 37) rfl ?_
      refine mh_getI fl_X6_336 dX6_put_37 (q := 40) rfl (shX3_0 (hP j hj).2.1) rfl ?_
      refine mh_iconst_1 dX6_put_40 (q := 41) rfl ?_
      refine mh_isub dX6_put_41 (q := 42) rfl ?_
      refine mh_callS3 ca_X6_put_42 (q := 45) rfl (by simp [Value.category]) ⟨Nat.zero_le _, Nat.zero_le _⟩ ?_
      refine sp_X6_within (fun c42 => ?_) (fun c42 => ?_)
      · skip
        refine mh_if_ne dX6_put_45 (tgt := 54) (q := 48) rfl rfl (fun _ => ?_) (fun hh => False.elim (by revert hh; decide))
        refine mh_aload_4 dX6_put_54 (q := 56) rfl ?_
        refine mh_getR fl_X6_102 dX6_put_56 (q := 59) rfl (shX3_0 (hP j hj).2.1) rfl ?_
        refine mh_iload_2 dX6_put_59 (q := 60) rfl ?_
        refine mh_aload_4 dX6_put_60 (q := 62) rfl ?_
        refine mh_iload_3 dX6_put_62 (q := 63) rfl ?_
        refine mh_callV1 ca_X6_put_63 (shX3_0 (hP j hj).2.1) (q := 66) rfl (by simp [Value.category]) ⟨Nat.zero_le _, Nat.zero_le _⟩ ?_
        refine sp_X3_cut (hP j hj).2.1 ?_
        have e9 : mhUF F 0 12 0 (13 + 2 * j) 1 = F (13 + 2 * j) 1 := by grind [mhUF]
        rw [e9]
        refine mh_iast dX6_put_66 (q := 67) rfl (shX3_1 (hP j hj).2.1) (by decide) (by have q0 := (hP j hj).2.2.1; have q1 := (hP j hj).2.2.2; refine mh_vp (N := 60) rfl c42.1 ?_; grind [mhUF]) ?_
        refine mh_iconst_1 dX6_put_67 (q := 68) rfl ?_
        refine mh_ireturn dX6_put_68 rfl rfl ?_
        exact ho j hj rfl hk (by grind [mhUF, mhPuOk])
      · skip
        refine mh_if_ne dX6_put_45 (tgt := 54) (q := 48) rfl rfl (fun hh => False.elim (by revert hh; decide)) (fun _ => ?_)
        refine mh_aload_0 dX6_put_48 (q := 49) rfl ?_
        refine mh_iconst_3 dX6_put_49 (q := 50) rfl ?_
        refine mh_callV1 ca_X6_put_50 (shX6_0 h6) (q := 53) rfl (by simp [Value.category]) ⟨Nat.zero_le _, Nat.zero_le _⟩ ?_
        refine sp_X6_faulted h6 ?_
        refine mh_ireturn dX6_put_53 rfl rfl ?_
        first | exact mh_clF0 (hb j hj rfl hk (by grind [mhUF, mhPuR, mhPuF, mhPuOk])) (by grind [mhUF, mhPuR, mhPuF, mhPuOk]) (by grind [mhUF, mhPuR, mhPuF, mhPuOk]) | exact mh_clF1 (hb j hj rfl hk (by grind [mhUF, mhPuR, mhPuF, mhPuOk])) (by grind [mhUF, mhPuR, mhPuF, mhPuOk]) (by grind [mhUF, mhPuR, mhPuF, mhPuOk])
