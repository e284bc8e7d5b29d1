/-! small facts -/
theorem mhV_eq {l : Launch} {K : mhX} {M : mhM} {kc ks : Nat} {Φ : mhQ} {pc : Nat} {lo : List (Option Value)} {st st' : List Value} {S : List mhS} {F : mhF} {I : mhI} {J : mhJ} {P : mhP} (h : st' = st) (k : mhV l K M kc ks Φ pc lo st S F I J P) : mhV l K M kc ks Φ pc lo st' S F I J P := h ▸ k
set_option maxHeartbeats 4000000 in
set_option maxRecDepth 100000 in
theorem sp_X6_within {l : Launch} {K : mhX} {Φ : mhQ} {S : List mhS} {F : mhF} {I : mhI} {J : mhJ} {P : mhP} {v a b : Int32} (ht : (a ≤ v ∧ v ≤ b) → Φ (some (.int 1)) S F I J P) (hf : ¬ (a ≤ v ∧ v ≤ b) → Φ (some (.int 0)) S F I J P) : mhOk l K mX6_within [.int v, .int a, .int b] S F I J P Φ := by
  refine mhOk.of (by decide) (by decide) rfl (Nat.le_of_ble_eq_true rfl) ?_
  refine mh_iload_0 dX6_within_0 (q := 1) rfl ?_
  refine mh_iload_1 dX6_within_1 (q := 2) rfl ?_
  refine mh_icmp_lt dX6_within_2 (tgt := 14) (q := 5) rfl rfl (fun c2 => ?_) (fun c2 => ?_)
  · skip
    refine mh_iconst_0 dX6_within_14 (q := 15) rfl ?_
    refine mh_ireturn dX6_within_15 rfl rfl ?_
    exact hf (fun e => by first | exact absurd e.1 (Int32.not_le.mpr c2) | exact absurd e.2 (Int32.not_le.mpr c7))
  · skip
    refine mh_iload_0 dX6_within_5 (q := 6) rfl ?_
    refine mh_iload_2 dX6_within_6 (q := 7) rfl ?_
    refine mh_icmp_gt dX6_within_7 (tgt := 14) (q := 10) rfl rfl (fun c7 => ?_) (fun c7 => ?_)
    · skip
      refine mh_iconst_0 dX6_within_14 (q := 15) rfl ?_
      refine mh_ireturn dX6_within_15 rfl rfl ?_
      exact hf (fun e => by first | exact absurd e.1 (Int32.not_le.mpr c2) | exact absurd e.2 (Int32.not_le.mpr c7))
    · skip
      refine mh_iconst_1 dX6_within_10 (q := 11) rfl ?_
      refine mh_goto dX6_within_11 (tgt := 15) rfl ?_
      refine mh_ireturn dX6_within_15 rfl rfl ?_
      exact ht ⟨Int32.not_lt.mp c2, Int32.not_lt.mp c7⟩
set_option maxHeartbeats 4000000 in
set_option maxRecDepth 100000 in
theorem sp_X6_isSort {l : Launch} {K : mhX} {Φ : mhQ} {S : List mhS} {F : mhF} {I : mhI} {J : mhJ} {P : mhP} {v : Int32} (ht : (0 ≤ v ∧ v ≤ 2) → Φ (some (.int 1)) S F I J P) (hf : ¬ (0 ≤ v ∧ v ≤ 2) → Φ (some (.int 0)) S F I J P) : mhOk l K mX6_isSort [.int v] S F I J P Φ := by
  refine mhOk.of (by decide) (by decide) rfl (Nat.le_of_ble_eq_true rfl) ?_
  refine mh_iload_0 dX6_isSort_0 (q := 1) rfl ?_
  refine mh_iconst_0 dX6_isSort_1 (q := 2) rfl ?_
  refine mh_iconst_2 dX6_isSort_2 (q := 3) rfl ?_
  refine mh_callS3 ca_X6_isSort_3 (q := 6) rfl (by simp [Value.category]) ⟨Nat.zero_le _, Nat.zero_le _⟩ ?_
  refine sp_X6_within (fun c3 => ?_) (fun c3 => ?_)
  · skip
    refine mh_ireturn dX6_isSort_6 rfl rfl ?_
    exact ht c3
  · skip
    refine mh_ireturn dX6_isSort_6 rfl rfl ?_
    exact hf c3
/-- a turn: whole numbers -60 .. 60, not both 0 -/
def mhTurn (p q : Int32) : Prop := ((-60) ≤ p ∧ p ≤ 60) ∧ ((-60) ≤ q ∧ q ≤ 60) ∧ (¬ p = 0 ∨ ¬ q = 0)
set_option maxHeartbeats 4000000 in
set_option maxRecDepth 100000 in
theorem sp_X6_isTurn {l : Launch} {K : mhX} {Φ : mhQ} {S : List mhS} {F : mhF} {I : mhI} {J : mhJ} {P : mhP} {a b : Int32} (ht : mhTurn a b → Φ (some (.int 1)) S F I J P) (hf : ¬ mhTurn a b → Φ (some (.int 0)) S F I J P) : mhOk l K mX6_isTurn [.int a, .int b] S F I J P Φ := by
  refine mhOk.of (by decide) (by decide) rfl (Nat.le_of_ble_eq_true rfl) ?_
  refine mh_iload_0 dX6_isTurn_0 (q := 1) rfl ?_
  refine mh_bipush (v := (-60)) dX6_isTurn_1 (q := 3) rfl (by decide) ?_
  refine mh_bipush (v := 60) dX6_isTurn_3 (q := 5) rfl (by decide) ?_
  refine mh_callS3 ca_X6_isTurn_5 (q := 8) rfl (by simp [Value.category]) ⟨Nat.zero_le _, Nat.zero_le _⟩ ?_
  refine sp_X6_within (fun c5 => ?_) (fun c5 => ?_)
  · skip
    refine mh_if_eq dX6_isTurn_8 (tgt := 34) (q := 11) rfl rfl (fun hh => False.elim (by revert hh; decide)) (fun _ => ?_)
    refine mh_iload_1 dX6_isTurn_11 (q := 12) rfl ?_
    refine mh_bipush (v := (-60)) dX6_isTurn_12 (q := 14) rfl (by decide) ?_
    refine mh_bipush (v := 60) dX6_isTurn_14 (q := 16) rfl (by decide) ?_
    refine mh_callS3 ca_X6_isTurn_16 (q := 19) rfl (by simp [Value.category]) ⟨Nat.zero_le _, Nat.zero_le _⟩ ?_
    refine sp_X6_within (fun c16 => ?_) (fun c16 => ?_)
    · skip
      refine mh_if_eq dX6_isTurn_19 (tgt := 34) (q := 22) rfl rfl (fun hh => False.elim (by revert hh; decide)) (fun _ => ?_)
      refine mh_iload_0 dX6_isTurn_22 (q := 23) rfl ?_
      refine mh_if_ne dX6_isTurn_23 (tgt := 30) (q := 26) rfl rfl (fun c23 => ?_) (fun c23 => ?_)
      · skip
        refine mh_iconst_1 dX6_isTurn_30 (q := 31) rfl ?_
        refine mh_goto dX6_isTurn_31 (tgt := 35) rfl ?_
        refine mh_ireturn dX6_isTurn_35 rfl rfl ?_
        first | exact ht ⟨c5, c16, Or.inl c23⟩ | exact ht ⟨c5, c16, Or.inr (fun e => absurd e c27)⟩
      · skip
        refine mh_iload_1 dX6_isTurn_26 (q := 27) rfl ?_
        refine mh_if_eq dX6_isTurn_27 (tgt := 34) (q := 30) rfl rfl (fun c27 => ?_) (fun c27 => ?_)
        · skip
          refine mh_iconst_0 dX6_isTurn_34 (q := 35) rfl ?_
          refine mh_ireturn dX6_isTurn_35 rfl rfl ?_
          first | exact hf (fun e => c5 e.1) | exact hf (fun e => c16 e.2.1) | (refine hf (fun e => e.2.2.elim (fun z => ?_) (fun z => ?_)) <;> simp_all)
        · skip
          refine mh_iconst_1 dX6_isTurn_30 (q := 31) rfl ?_
          refine mh_goto dX6_isTurn_31 (tgt := 35) rfl ?_
          refine mh_ireturn dX6_isTurn_35 rfl rfl ?_
          first | exact ht ⟨c5, c16, Or.inl c23⟩ | exact ht ⟨c5, c16, Or.inr (fun e => absurd e c27)⟩
    · skip
      refine mh_if_eq dX6_isTurn_19 (tgt := 34) (q := 22) rfl rfl (fun _ => ?_) (fun hh => False.elim (by revert hh; decide))
      refine mh_iconst_0 dX6_isTurn_34 (q := 35) rfl ?_
      refine mh_ireturn dX6_isTurn_35 rfl rfl ?_
      first | exact hf (fun e => c5 e.1) | exact hf (fun e => c16 e.2.1) | (refine hf (fun e => e.2.2.elim (fun z => ?_) (fun z => ?_)) <;> simp_all)
  · skip
    refine mh_if_eq dX6_isTurn_8 (tgt := 34) (q := 11) rfl rfl (fun _ => ?_) (fun hh => False.elim (by revert hh; decide))
    refine mh_iconst_0 dX6_isTurn_34 (q := 35) rfl ?_
    refine mh_ireturn dX6_isTurn_35 rfl rfl ?_
    first | exact hf (fun e => c5 e.1) | exact hf (fun e => c16 e.2.1) | (refine hf (fun e => e.2.2.elim (fun z => ?_) (fun z => ?_)) <;> simp_all)
set_option maxHeartbeats 4000000 in
set_option maxRecDepth 100000 in
theorem sp_X6_faulted {l : Launch} {K : mhX} {Φ : mhQ} {S : List mhS} {F : mhF} {I : mhI} {J : mhJ} {P : mhP} (h6 : mhKX6 S) {f : Int32} (hΦ : Φ (some (.int (-10 - f))) S (mhUF F 0 12 f) I J P) : mhOk l K mX6_faulted [.ref 0, .int f] S F I J P Φ := by
  refine mhOk.of (by decide) (by decide) rfl (Nat.le_of_ble_eq_true rfl) ?_
  refine mh_aload_0 dX6_faulted_0 (q := 1) rfl ?_
  refine mh_iload_1 dX6_faulted_1 (q := 2) rfl ?_
  refine mh_putI (Or.inl fw_X6_65) rfl rfl dX6_faulted_2 (q := 5) rfl (shX6_0 h6) rfl ?_
  refine mh_bipush (v := (-10)) dX6_faulted_5 (q := 7) rfl (by decide) ?_
  refine mh_iload_1 dX6_faulted_7 (q := 8) rfl ?_
  refine mh_isub dX6_faulted_8 (q := 9) rfl ?_
  refine mh_ireturn dX6_faulted_9 rfl rfl ?_
  exact hΦ
