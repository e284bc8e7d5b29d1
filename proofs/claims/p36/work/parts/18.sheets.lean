/-! sheets: the class's and the reference's ways to look at them -/
theorem mh_cl {Φ : mhQ} {r r' : Int32} {S : List mhS} {F : mhF} {I : mhI} {J : mhJ} {P : mhP} (h : Φ (some (.int r)) S F I J P) (e : r = r') : Φ (some (.int r')) S F I J P := e ▸ h
theorem mh_clL {Φ : mhQ} {r r' : Int64} {S : List mhS} {F : mhF} {I : mhI} {J : mhJ} {P : mhP} (h : Φ (some (.long r)) S F I J P) (e : r = r') : Φ (some (.long r')) S F I J P := e ▸ h
theorem fa_eq (a b : Int32) : a = b ↔ a.toInt = b.toInt := Int32.toInt_inj.symm
def mhFill (I : mhI) (a n : Nat) (v : Int32) : mhI := fun b j => if b = a ∧ 0 ≤ j.toInt ∧ j.toInt < (n : Int) then v else I b j
theorem mhFill_0 {I : mhI} {a : Nat} {v : Int32} : mhFill I a 0 v = I := by
  funext b j
  exact if_neg (by rintro ⟨-, h1, h2⟩; omega)
theorem mhFill_s {I : mhI} {a i : Nat} {v : Int32} (hi : i + 1 < 2 ^ 31) : mhUI (mhFill I a i v) a (nI i) v = mhFill I a (i + 1) v := by
  funext b j
  have hj : j = nI i ↔ j.toInt = i := by rw [fa_eq, nI_toInt (by omega)]
  unfold mhUI mhFill
  by_cases h1 : b = a <;> by_cases h2 : j.toInt = i <;> by_cases h3 : 0 ≤ j.toInt ∧ j.toInt < (i : Int) <;> grind
set_option maxHeartbeats 4000000 in
set_option maxRecDepth 100000 in
theorem lp_J7_fill {l : Launch} {K : mhX} {kc ks : Nat} {Φ : mhQ} {S : List mhS} {F : mhF} {I : mhI} {J : mhJ} {P : mhP} {a n : Nat} {v : Int32} (hS : S[a]? = some (.inl (0, n))) (hn : n < 2 ^ 31) (hΦ : Φ none S F (mhFill I a n v) J P) : ∀ (m i : Nat), i + m = n → mhV l K mJ7_fill_53178 kc ks Φ 5 [some (.ref a), some (.int v), some (.int (nI i)), some (.int (nI n))] [] S F (mhFill I a i v) J P := by
  intro m
  induction m with
  | zero =>
    intro i hi
    obtain rfl : i = n := by omega
    refine mh_iload_2 dJ7_fill_53178_5 (q := 6) rfl ?_
    refine mh_iload_3 dJ7_fill_53178_6 (q := 7) rfl ?_
    refine mh_icmp_ge dJ7_fill_53178_7 (tgt := 20) (q := 10) rfl rfl (fun _ => ?_) (fun hh => absurd (nI_le (Nat.le_refl _) hn) hh)
    refine mh_return dJ7_fill_53178_20 rfl ?_
    exact hΦ
  | succ m ih =>
    intro i hi
    refine mh_iload_2 dJ7_fill_53178_5 (q := 6) rfl ?_
    refine mh_iload_3 dJ7_fill_53178_6 (q := 7) rfl ?_
    refine mh_icmp_ge dJ7_fill_53178_7 (tgt := 20) (q := 10) rfl rfl (fun hh => absurd hh (nI_ge (by omega) hn)) (fun _ => ?_)
    refine mh_aload_0 dJ7_fill_53178_10 (q := 11) rfl ?_
    refine mh_iload_2 dJ7_fill_53178_11 (q := 12) rfl ?_
    refine mh_iload_1 dJ7_fill_53178_12 (q := 13) rfl ?_
    refine mh_iast dJ7_fill_53178_13 (q := 14) rfl hS hn (vp_in_nI (by omega) hn) ?_
    refine mh_iinc_2 (v := 1) dJ7_fill_53178_14 (q := 17) rfl (by decide) ?_
    refine mh_goto dJ7_fill_53178_17 (tgt := 5) rfl ?_
    rw [mhFill_s (by omega), nI_1]
    exact ih (i + 1) (by omega)
set_option maxHeartbeats 4000000 in
set_option maxRecDepth 100000 in
theorem sp_J7_fill_53178 {l : Launch} {K : mhX} {Φ : mhQ} {S : List mhS} {F : mhF} {I : mhI} {J : mhJ} {P : mhP} {a n : Nat} {v : Int32} (hS : S[a]? = some (.inl (0, n))) (hn : n < 2 ^ 31) (hΦ : Φ none S F (mhFill I a n v) J P) : mhOk l K mJ7_fill_53178 [.ref a, .int v] S F I J P Φ := by
  refine mhOk.of (by decide) (by decide) rfl (Nat.le_of_ble_eq_true rfl) ?_
  refine mh_iconst_0 dJ7_fill_53178_0 (q := 1) rfl ?_
  refine mh_istore_2 dJ7_fill_53178_1 (q := 2) rfl ?_
  refine mh_aload_0 dJ7_fill_53178_2 (q := 3) rfl ?_
  refine mh_alen (v := nI n) dJ7_fill_53178_3 (q := 4) rfl hS (by decide) rfl ?_
  refine mh_istore_3 dJ7_fill_53178_4 (q := 5) rfl ?_
  have hl := lp_J7_fill (l := l) (K := K) (kc := mJ7_fill_53178.2.2.2.2.cells) (ks := mJ7_fill_53178.2.2.2.2.slots) hS hn hΦ n 0 (by omega)
  rw [mhFill_0] at hl
  exact hl
/-- what the machine has against n cells of a sheet of a sort from i on, taken as a row of another -/
def mhAg (s len o i n : Int32) : Int32 := if ¬ (s = -9 ∨ s = o) then 2 else if s = -9 then 1 else if n < 0 then 4 else if 0 ≤ i ∧ i ≤ len ∧ n ≤ len - i then 0 else 3
/-- a number that comes to a cell of a sort -/
def mhCut (s v : Int32) : Int32 := if s = 0 then v.toInt8.toInt32 else if s = 1 then v.toInt16.toInt32 else v
set_option maxHeartbeats 4000000 in
set_option maxRecDepth 100000 in
theorem sp_X3_isNothing {l : Launch} {K : mhX} {Φ : mhQ} {S : List mhS} {F : mhF} {I : mhI} {J : mhJ} {P : mhP} {s : Nat} (h3 : mhKX3 S s) (ht : F s 1 = -9 → Φ (some (.int 1)) S F I J P) (hf : ¬ F s 1 = -9 → Φ (some (.int 0)) S F I J P) : mhOk l K mX3_isNothing [.ref s] S F I J P Φ := by
  refine mhOk.of (by decide) (by decide) rfl (Nat.le_of_ble_eq_true rfl) ?_
  refine mh_aload_0 dX3_isNothing_0 (q := 1) rfl ?_
  refine mh_getI fl_X3_15 dX3_isNothing_1 (q := 4) rfl (shX3_0 h3) rfl ?_
  refine mh_bipush (v := (-9)) dX3_isNothing_4 (q := 6) rfl (by decide) ?_
  refine mh_icmp_ne dX3_isNothing_6 (tgt := 13) (q := 9) rfl rfl (fun c6 => ?_) (fun c6 => ?_)
  · skip
    refine mh_iconst_0 dX3_isNothing_13 (q := 14) rfl ?_
    refine mh_ireturn dX3_isNothing_14 rfl rfl ?_
    first | exact hf (by assumption) | exact hf (by grind)
  · skip
    refine mh_iconst_1 dX3_isNothing_9 (q := 10) rfl ?_
    refine mh_goto dX3_isNothing_10 (tgt := 14) rfl ?_
    refine mh_ireturn dX3_isNothing_14 rfl rfl ?_
    first | exact ht (by assumption) | exact ht (by grind)
set_option maxHeartbeats 4000000 in
set_option maxRecDepth 100000 in
theorem sp_X3_canBe {l : Launch} {K : mhX} {Φ : mhQ} {S : List mhS} {F : mhF} {I : mhI} {J : mhJ} {P : mhP} {s : Nat} (h3 : mhKX3 S s) {o : Int32} (ht : (F s 1 = -9 ∨ F s 1 = o) → Φ (some (.int 1)) S F I J P) (hf : ¬ (F s 1 = -9 ∨ F s 1 = o) → Φ (some (.int 0)) S F I J P) : mhOk l K mX3_canBe [.ref s, .int o] S F I J P Φ := by
  refine mhOk.of (by decide) (by decide) rfl (Nat.le_of_ble_eq_true rfl) ?_
  refine mh_aload_0 dX3_canBe_0 (q := 1) rfl ?_
  refine mh_callV0 ca_X3_canBe_1 (shX3_0 h3) (q := 4) rfl (by simp [Value.category]) ⟨Nat.zero_le _, Nat.zero_le _⟩ ?_
  refine sp_X3_isNothing h3 (fun c1 => ?_) (fun c1 => ?_)
  · skip
    refine mh_if_ne dX3_canBe_4 (tgt := 15) (q := 7) rfl rfl (fun _ => ?_) (fun hh => False.elim (by revert hh; decide))
    refine mh_iconst_1 dX3_canBe_15 (q := 16) rfl ?_
    refine mh_goto dX3_canBe_16 (tgt := 20) rfl ?_
    refine mh_ireturn dX3_canBe_20 rfl rfl ?_
    exact ht (by grind)
  · skip
    refine mh_if_ne dX3_canBe_4 (tgt := 15) (q := 7) rfl rfl (fun hh => False.elim (by revert hh; decide)) (fun _ => ?_)
    refine mh_aload_0 dX3_canBe_7 (q := 8) rfl ?_
    refine mh_getI fl_X3_15 dX3_canBe_8 (q := 11) rfl (shX3_0 h3) rfl ?_
    refine mh_iload_1 dX3_canBe_11 (q := 12) rfl ?_
    refine mh_icmp_ne dX3_canBe_12 (tgt := 19) (q := 15) rfl rfl (fun c12 => ?_) (fun c12 => ?_)
    · skip
      refine mh_iconst_0 dX3_canBe_19 (q := 20) rfl ?_
      refine mh_ireturn dX3_canBe_20 rfl rfl ?_
      exact hf (by grind)
    · skip
      refine mh_iconst_1 dX3_canBe_15 (q := 16) rfl ?_
      refine mh_goto dX3_canBe_16 (tgt := 20) rfl ?_
      refine mh_ireturn dX3_canBe_20 rfl rfl ?_
      exact ht (by grind)
set_option maxHeartbeats 4000000 in
set_option maxRecDepth 100000 in
theorem sp_X3_hasCells {l : Launch} {K : mhX} {Φ : mhQ} {S : List mhS} {F : mhF} {I : mhI} {J : mhJ} {P : mhP} {s : Nat} (h3 : mhKX3 S s) {i n : Int32} (ht : (0 ≤ i ∧ i ≤ F s 2 ∧ n ≤ F s 2 - i) → Φ (some (.int 1)) S F I J P) (hf : ¬ (0 ≤ i ∧ i ≤ F s 2 ∧ n ≤ F s 2 - i) → Φ (some (.int 0)) S F I J P) : mhOk l K mX3_hasCells [.ref s, .int i, .int n] S F I J P Φ := by
  refine mhOk.of (by decide) (by decide) rfl (Nat.le_of_ble_eq_true rfl) ?_
  refine mh_iload_1 dX3_hasCells_0 (q := 1) rfl ?_
  refine mh_if_lt dX3_hasCells_1 (tgt := 26) (q := 4) rfl rfl (fun c1 => ?_) (fun c1 => ?_)
  · skip
    refine mh_iconst_0 dX3_hasCells_26 (q := 27) rfl ?_
    refine mh_ireturn dX3_hasCells_27 rfl rfl ?_
    exact hf (by grind)
  · skip
    refine mh_iload_1 dX3_hasCells_4 (q := 5) rfl ?_
    refine mh_aload_0 dX3_hasCells_5 (q := 6) rfl ?_
    refine mh_getI fl_X3_19 dX3_hasCells_6 (q := 9) rfl (shX3_0 h3) rfl ?_
    refine mh_icmp_gt dX3_hasCells_9 (tgt := 26) (q := 12) rfl rfl (fun c9 => ?_) (fun c9 => ?_)
    · skip
      refine mh_iconst_0 dX3_hasCells_26 (q := 27) rfl ?_
      refine mh_ireturn dX3_hasCells_27 rfl rfl ?_
      exact hf (by grind)
    · skip
      refine mh_iload_2 dX3_hasCells_12 (q := 13) rfl ?_
      refine mh_aload_0 dX3_hasCells_13 (q := 14) rfl ?_
      refine mh_getI fl_X3_19 dX3_hasCells_14 (q := 17) rfl (shX3_0 h3) rfl ?_
      refine mh_iload_1 dX3_hasCells_17 (q := 18) rfl ?_
      refine mh_isub dX3_hasCells_18 (q := 19) rfl ?_
      refine mh_icmp_gt dX3_hasCells_19 (tgt := 26) (q := 22) rfl rfl (fun c19 => ?_) (fun c19 => ?_)
      · skip
        refine mh_iconst_0 dX3_hasCells_26 (q := 27) rfl ?_
        refine mh_ireturn dX3_hasCells_27 rfl rfl ?_
        exact hf (by grind)
      · skip
        refine mh_iconst_1 dX3_hasCells_22 (q := 23) rfl ?_
        refine mh_goto dX3_hasCells_23 (tgt := 27) rfl ?_
        refine mh_ireturn dX3_hasCells_27 rfl rfl ?_
        exact ht (by grind)
set_option maxHeartbeats 4000000 in
set_option maxRecDepth 100000 in
theorem sp_X3_cut {l : Launch} {K : mhX} {Φ : mhQ} {S : List mhS} {F : mhF} {I : mhI} {J : mhJ} {P : mhP} {s : Nat} (h3 : mhKX3 S s) {v : Int32} (hΦ : Φ (some (.int (mhCut (F s 1) v))) S F I J P) : mhOk l K mX3_cut [.ref s, .int v] S F I J P Φ := by
  refine mhOk.of (by decide) (by decide) rfl (Nat.le_of_ble_eq_true rfl) ?_
  refine mh_aload_0 dX3_cut_0 (q := 1) rfl ?_
  refine mh_getI fl_X3_15 dX3_cut_1 (q := 4) rfl (shX3_0 h3) rfl ?_
  refine mh_if_ne dX3_cut_4 (tgt := 10) (q := 7) rfl rfl (fun c4 => ?_) (fun c4 => ?_)
  · skip
    refine mh_aload_0 dX3_cut_10 (q := 11) rfl ?_
    refine mh_getI fl_X3_15 dX3_cut_11 (q := 14) rfl (shX3_0 h3) rfl ?_
    refine mh_iconst_1 dX3_cut_14 (q := 15) rfl ?_
    refine mh_icmp_ne dX3_cut_15 (tgt := 23) (q := 18) rfl rfl (fun c15 => ?_) (fun c15 => ?_)
    · skip
      refine mh_iload_1 dX3_cut_23 (q := 24) rfl ?_
      refine mh_ireturn dX3_cut_24 rfl rfl ?_
      exact mh_cl hΦ (by grind [mhCut])
    · skip
      refine mh_iload_1 dX3_cut_18 (q := 19) rfl ?_
      refine mh_i2s dX3_cut_19 (q := 20) rfl ?_
      refine mh_goto dX3_cut_20 (tgt := 24) rfl ?_
      refine mh_ireturn dX3_cut_24 rfl rfl ?_
      exact mh_cl hΦ (by grind [mhCut])
  · skip
    refine mh_iload_1 dX3_cut_7 (q := 8) rfl ?_
    refine mh_i2b dX3_cut_8 (q := 9) rfl ?_
    refine mh_ireturn dX3_cut_9 rfl rfl ?_
    exact mh_cl hΦ (by grind [mhCut])
set_option maxHeartbeats 4000000 in
set_option maxRecDepth 100000 in
theorem sp_X3_faultOfRow {l : Launch} {K : mhX} {Φ : mhQ} {S : List mhS} {F : mhF} {I : mhI} {J : mhJ} {P : mhP} {s : Nat} (h3 : mhKX3 S s) {o i n : Int32} (hΦ : Φ (some (.int (mhAg (F s 1) (F s 2) o i n))) S F I J P) : mhOk l K mX3_faultOfRow [.ref s, .int o, .int i, .int n] S F I J P Φ := by
  refine mhOk.of (by decide) (by decide) rfl (Nat.le_of_ble_eq_true rfl) ?_
  refine mh_aload_0 dX3_faultOfRow_0 (q := 1) rfl ?_
  refine mh_iload_1 dX3_faultOfRow_1 (q := 2) rfl ?_
  refine mh_callV1 ca_X3_faultOfRow_2 (shX3_0 h3) (q := 5) rfl (by simp [Value.category]) ⟨Nat.zero_le _, Nat.zero_le _⟩ ?_
  refine sp_X3_canBe h3 (fun c2 => ?_) (fun c2 => ?_)
  · skip
    refine mh_if_ne dX3_faultOfRow_5 (tgt := 10) (q := 8) rfl rfl (fun _ => ?_) (fun hh => False.elim (by revert hh; decide))
    refine mh_aload_0 dX3_faultOfRow_10 (q := 11) rfl ?_
    refine mh_callV0 ca_X3_faultOfRow_11 (shX3_0 h3) (q := 14) rfl (by simp [Value.category]) ⟨Nat.zero_le _, Nat.zero_le _⟩ ?_
    refine sp_X3_isNothing h3 (fun c11 => ?_) (fun c11 => ?_)
    · skip
      refine mh_if_eq dX3_faultOfRow_14 (tgt := 19) (q := 17) rfl rfl (fun hh => False.elim (by revert hh; decide)) (fun _ => ?_)
      refine mh_iconst_1 dX3_faultOfRow_17 (q := 18) rfl ?_
      refine mh_ireturn dX3_faultOfRow_18 rfl rfl ?_
      exact mh_cl hΦ (by grind [mhAg])
    · skip
      refine mh_if_eq dX3_faultOfRow_14 (tgt := 19) (q := 17) rfl rfl (fun _ => ?_) (fun hh => False.elim (by revert hh; decide))
      refine mh_iload_3 dX3_faultOfRow_19 (q := 20) rfl ?_
      refine mh_if_ge dX3_faultOfRow_20 (tgt := 25) (q := 23) rfl rfl (fun c20 => ?_) (fun c20 => ?_)
      · skip
        refine mh_aload_0 dX3_faultOfRow_25 (q := 26) rfl ?_
        refine mh_iload_2 dX3_faultOfRow_26 (q := 27) rfl ?_
        refine mh_iload_3 dX3_faultOfRow_27 (q := 28) rfl ?_
        refine mh_callV2 ca_X3_faultOfRow_28 (shX3_0 h3) (q := 31) rfl (by simp [Value.category]) ⟨Nat.zero_le _, Nat.zero_le _⟩ ?_
        refine sp_X3_hasCells h3 (fun c28 => ?_) (fun c28 => ?_)
        · skip
          refine mh_if_eq dX3_faultOfRow_31 (tgt := 38) (q := 34) rfl rfl (fun hh => False.elim (by revert hh; decide)) (fun _ => ?_)
          refine mh_iconst_0 dX3_faultOfRow_34 (q := 35) rfl ?_
          refine mh_goto dX3_faultOfRow_35 (tgt := 39) rfl ?_
          refine mh_ireturn dX3_faultOfRow_39 rfl rfl ?_
          exact mh_cl hΦ (by grind [mhAg])
        · skip
          refine mh_if_eq dX3_faultOfRow_31 (tgt := 38) (q := 34) rfl rfl (fun _ => ?_) (fun hh => False.elim (by revert hh; decide))
          refine mh_iconst_3 dX3_faultOfRow_38 (q := 39) rfl ?_
          refine mh_ireturn dX3_faultOfRow_39 rfl rfl ?_
          exact mh_cl hΦ (by grind [mhAg])
      · skip
        refine mh_iconst_4 dX3_faultOfRow_23 (q := 24) rfl ?_
        refine mh_ireturn dX3_faultOfRow_24 rfl rfl ?_
        exact mh_cl hΦ (by grind [mhAg])
  · skip
    refine mh_if_ne dX3_faultOfRow_5 (tgt := 10) (q := 8) rfl rfl (fun hh => False.elim (by revert hh; decide)) (fun _ => ?_)
    refine mh_iconst_2 dX3_faultOfRow_8 (q := 9) rfl ?_
    refine mh_ireturn dX3_faultOfRow_9 rfl rfl ?_
    exact mh_cl hΦ (by grind [mhAg])
set_option maxHeartbeats 4000000 in
set_option maxRecDepth 100000 in
theorem sp_X3_renew {l : Launch} {K : mhX} {Φ : mhQ} {S : List mhS} {F : mhF} {I : mhI} {J : mhJ} {P : mhP} {s : Nat} (h3 : mhKX3 S s) {so n : Int32} (hΦ : Φ none S (mhUF (mhUF F s 1 so) s 2 n) (mhFill I (s + 1) 60 0) J P) : mhOk l K mX3_renew [.ref s, .int so, .int n] S F I J P Φ := by
  refine mhOk.of (by decide) (by decide) rfl (Nat.le_of_ble_eq_true rfl) ?_
  refine mh_aload_0 dX3_renew_0 (q := 1) rfl ?_
  refine mh_iload_1 dX3_renew_1 (q := 2) rfl ?_
  refine mh_putI (Or.inl fw_X3_15) rfl rfl dX3_renew_2 (q := 5) rfl (shX3_0 h3) rfl ?_
  refine mh_aload_0 dX3_renew_5 (q := 6) rfl ?_
  refine mh_iload_2 dX3_renew_6 (q := 7) rfl ?_
  refine mh_putI (Or.inl fw_X3_19) rfl rfl dX3_renew_7 (q := 10) rfl (shX3_0 h3) rfl ?_
  refine mh_aload_0 dX3_renew_10 (q := 11) rfl ?_
  refine mh_getR fl_X3_9 dX3_renew_11 (q := 14) rfl (shX3_0 h3) rfl ?_
  refine mh_iconst_0 dX3_renew_14 (q := 15) rfl ?_
  refine mh_callS2 ca_X3_renew_15 (q := 18) rfl (by simp [Value.category]) ⟨Nat.zero_le _, Nat.zero_le _⟩ ?_
  refine sp_J7_fill_53178 (shX3_1 h3) (by decide) ?_
  refine mh_return dX3_renew_18 rfl ?_
  exact hΦ
