/-! setting out, looking -/
def sgMid (r : Nat) : Nat := if r % 2 = 0 then 1 else 2
def sgSl (p q : Int32) (d : Nat) : Int32 := if d = 0 then q else if d = 1 then p else p + q
def sgPa (p q : Int32) (d : Nat) : Nat := (if 0 ≤ sgSl p q d then sgSl p q d else 0 - sgSl p q d).toNatClampNeg
def sgLi (r d : Nat) : Nat := if d = 2 then 2 * sgMid r % 3 else sgMid r
def sgTi (r : Nat) (p q : Int32) (d : Nat) : Nat := if sgSl p q d < 0 then sgLi r d else 3 - sgLi r d
def sgSt (r : Nat) (p q : Int32) : mhSg := (sgTi r p q, id, r, 0, 0, -9, 2)
/-- the bounds of a turn -/
def sgBd (p q : Int32) : Prop := (-60 ≤ p ∧ p ≤ 60) ∧ (-60 ≤ q ∧ q ≤ 60)
theorem sgPa_nI {p q : Int32} (hb : sgBd p q) (d : Nat) : nI (sgPa p q d) = (if 0 ≤ sgSl p q d then sgSl p q d else 0 - sgSl p q d) ∧ sgPa p q d ≤ 120 := by
  obtain ⟨⟨a1, a2⟩, b1, b2⟩ := hb
  have h1 : 0 ≤ (if 0 ≤ sgSl p q d then sgSl p q d else 0 - sgSl p q d) ∧ (if 0 ≤ sgSl p q d then sgSl p q d else 0 - sgSl p q d) ≤ nI 120 := by
    have e : nI 120 = 120 := rfl
    unfold sgSl
    split <;> split <;> (try split) <;> grind
  obtain ⟨n, hn, e⟩ := nI_of (Int32.not_lt.mpr h1.1)
  unfold sgPa
  rw [e] at h1 ⊢
  rw [nI_clamp hn]
  exact ⟨rfl, (nI_leI hn (by decide)).mp h1.2⟩
theorem sgLi_le (r d : Nat) : 1 ≤ sgLi r d ∧ sgLi r d ≤ 2 := by
  unfold sgLi sgMid
  split <;> split <;> omega
theorem sgOk_st {w h r : Nat} {p q : Int32} (hb : sgBd p q) (hr : r < gRooms w h) : sgOk w h (sgPa p q) (sgSt r p q) := by
  refine ⟨fun d hd => ⟨(sgPa_nI hb d).2, ?_, hd⟩, hr, Nat.zero_le 1000, Nat.le_refl 0⟩
  have := sgLi_le r d
  show sgTi r p q d ≤ 3 * 0 + 3
  unfold sgTi
  split <;> omega
/-- crossings, till it ends or n are made -/
def sgRun (w h : Nat) (kd : Nat → Int32) (p : Nat → Nat) : Nat → mhSg → mhSg
  | 0, g => g
  | n + 1, g => if g.2.2.2.2.2.2 = 2 then sgRun w h kd p n (sgStep w h kd p g) else g
theorem sgRun_end {w h : Nat} {kd : Nat → Int32} {p : Nat → Nat} {g : mhSg} (he : ¬ g.2.2.2.2.2.2 = 2) (n : Nat) : sgRun w h kd p n g = g := by
  cases n with
  | zero => rfl
  | succ n => unfold sgRun; rw [if_neg he]
theorem sgStep_c {w h : Nat} {kd : Nat → Int32} {p : Nat → Nat} {g : mhSg} : (sgStep w h kd p g).2.2.2.1 ≤ g.2.2.2.1 + 1 ∧ ((sgStep w h kd p g).2.2.2.2.2.2 = 2 → (sgStep w h kd p g).2.2.2.1 = g.2.2.2.1 + 1) := by
  unfold sgStep
  split
  · exact ⟨Nat.le_succ _, fun e => absurd e (show ¬ (0 : Int32) = 2 by decide)⟩
  · dsimp only
    split
    · exact ⟨Nat.le_refl _, fun _ => rfl⟩
    · split
      · exact ⟨Nat.le_refl _, fun _ => rfl⟩
      · exact ⟨Nat.le_refl _, fun _ => rfl⟩
set_option maxHeartbeats 4000000 in
set_option maxRecDepth 100000 in
theorem sp_X4_thirdsIn {l : Launch} {K : mhX} {Φ : mhQ} {S : List mhS} {F : mhF} {I : mhI} {J : mhJ} {P : mhP} {r : Nat} (hr : r < 2 ^ 31) (hΦ : Φ (some (.int (nI (sgMid r)))) S F I J P) : mhOk l K mX4_thirdsIn [.int (nI r)] S F I J P Φ := by
  refine mhOk.of (by decide) (by decide) rfl (Nat.le_of_ble_eq_true rfl) ?_
  refine mh_iload_0 dX4_thirdsIn_0 (q := 1) rfl ?_
  refine mh_iconst_2 dX4_thirdsIn_1 (q := 2) rfl ?_
  refine mh_irem dX4_thirdsIn_2 (q := 3) rfl (by decide) ?_
  refine mh_if_ne dX4_thirdsIn_3 (tgt := 10) (q := 6) rfl rfl (fun c3 => ?_) (fun c3 => ?_)
  · skip
    refine mh_iconst_2 dX4_thirdsIn_10 (q := 11) rfl ?_
    refine mh_ireturn dX4_thirdsIn_11 rfl rfl ?_
    rw [mh_ev0 r hr] at c3
    unfold sgMid at hΦ
    first
    | (rw [if_pos c3] at hΦ; exact hΦ)
    | (rw [if_neg c3] at hΦ; exact hΦ)
  · skip
    refine mh_iconst_1 dX4_thirdsIn_6 (q := 7) rfl ?_
    refine mh_goto dX4_thirdsIn_7 (tgt := 11) rfl ?_
    refine mh_ireturn dX4_thirdsIn_11 rfl rfl ?_
    rw [mh_ev0 r hr] at c3
    unfold sgMid at hΦ
    first
    | (rw [if_pos c3] at hΦ; exact hΦ)
    | (rw [if_neg c3] at hΦ; exact hΦ)
set_option maxHeartbeats 4000000 in
set_option maxRecDepth 100000 in
theorem sp_X4_aim {l : Launch} {K : mhX} {Φ : mhQ} {S : List mhS} {F : mhF} {I : mhI} {J : mhJ} {P : mhP} (h4 : mhKX4 S) {d : Nat} {t s : Int32} (hd : d < 3) (hΦ : Φ none S F (mhUI (mhUI (mhUI I 7 (nI d) (if 0 < s then 3 - (t - t / 3 * 3) else t - t / 3 * 3)) 8 (nI d) (if 0 ≤ s then s else 0 - s)) 9 (nI d) (nI d)) J P) : mhOk l K mX4_aim [.ref 6, .int (nI d), .int t, .int s] S F I J P Φ := by
  refine mhOk.of (by decide) (by decide) rfl (Nat.le_of_ble_eq_true rfl) ?_
  refine mh_iload_2 dX4_aim_0 (q := 1) rfl ?_
  refine mh_iconst_3 dX4_aim_1 (q := 2) rfl ?_
  refine mh_irem dX4_aim_2 (q := 3) rfl (by decide) ?_
  refine mh_istore_4 dX4_aim_3 (q := 5) rfl ?_
  refine mh_aload_0 dX4_aim_5 (q := 6) rfl ?_
  refine mh_getR fl_X4_9 dX4_aim_6 (q := 9) rfl (shX4_0 h4) rfl ?_
  refine mh_iload_1 dX4_aim_9 (q := 10) rfl ?_
  refine mh_iload_3 dX4_aim_10 (q := 11) rfl ?_
  refine mh_if_le dX4_aim_11 (tgt := 21) (q := 14) rfl rfl (fun c11 => ?_) (fun c11 => ?_)
  · skip
    refine mh_iload_4 dX4_aim_21 (q := 23) rfl ?_
    refine mh_iast dX4_aim_23 (q := 24) rfl (shX4_1 h4) (by decide) (vp_in_nI (by omega) (by decide)) ?_
    refine mh_aload_0 dX4_aim_24 (q := 25) rfl ?_
    refine mh_getR fl_X4_15 dX4_aim_25 (q := 28) rfl (shX4_0 h4) rfl ?_
    refine mh_iload_1 dX4_aim_28 (q := 29) rfl ?_
    refine mh_iload_3 dX4_aim_29 (q := 30) rfl ?_
    refine mh_abs dX4_aim_30 wd_absL_X4_52 wd_absS wd_absI wd_absC (by decide) (by decide) (by simp [Value.category]) (q := 33) rfl ?_
    refine mh_iast dX4_aim_33 (q := 34) rfl (shX4_2 h4) (by decide) (vp_in_nI (by omega) (by decide)) ?_
    refine mh_aload_0 dX4_aim_34 (q := 35) rfl ?_
    refine mh_getR fl_X4_18 dX4_aim_35 (q := 38) rfl (shX4_0 h4) rfl ?_
    refine mh_iload_1 dX4_aim_38 (q := 39) rfl ?_
    refine mh_iload_1 dX4_aim_39 (q := 40) rfl ?_
    refine mh_iast dX4_aim_40 (q := 41) rfl (shX4_3 h4) (by decide) (vp_in_nI (by omega) (by decide)) ?_
    refine mh_return dX4_aim_41 rfl ?_
    first
    | (rw [if_neg (Int32.not_lt.mpr c11)] at hΦ; exact hΦ)
    | (rw [if_pos (Int32.not_le.mp c11)] at hΦ; exact hΦ)
  · skip
    refine mh_iconst_3 dX4_aim_14 (q := 15) rfl ?_
    refine mh_iload_4 dX4_aim_15 (q := 17) rfl ?_
    refine mh_isub dX4_aim_17 (q := 18) rfl ?_
    refine mh_goto dX4_aim_18 (tgt := 23) rfl ?_
    refine mh_iast dX4_aim_23 (q := 24) rfl (shX4_1 h4) (by decide) (vp_in_nI (by omega) (by decide)) ?_
    refine mh_aload_0 dX4_aim_24 (q := 25) rfl ?_
    refine mh_getR fl_X4_15 dX4_aim_25 (q := 28) rfl (shX4_0 h4) rfl ?_
    refine mh_iload_1 dX4_aim_28 (q := 29) rfl ?_
    refine mh_iload_3 dX4_aim_29 (q := 30) rfl ?_
    refine mh_abs dX4_aim_30 wd_absL_X4_52 wd_absS wd_absI wd_absC (by decide) (by decide) (by simp [Value.category]) (q := 33) rfl ?_
    refine mh_iast dX4_aim_33 (q := 34) rfl (shX4_2 h4) (by decide) (vp_in_nI (by omega) (by decide)) ?_
    refine mh_aload_0 dX4_aim_34 (q := 35) rfl ?_
    refine mh_getR fl_X4_18 dX4_aim_35 (q := 38) rfl (shX4_0 h4) rfl ?_
    refine mh_iload_1 dX4_aim_38 (q := 39) rfl ?_
    refine mh_iload_1 dX4_aim_39 (q := 40) rfl ?_
    refine mh_iast dX4_aim_40 (q := 41) rfl (shX4_3 h4) (by decide) (vp_in_nI (by omega) (by decide)) ?_
    refine mh_return dX4_aim_41 rfl ?_
    first
    | (rw [if_neg (Int32.not_lt.mpr c11)] at hΦ; exact hΦ)
    | (rw [if_pos (Int32.not_le.mp c11)] at hΦ; exact hΦ)
/-- three ways set in their arrays -/
theorem mh_at3 {I : mhI} {x v : Int32} {ta : Nat} : mhUI I ta x v ta x = v := by rw [mhUI, if_pos ⟨rfl, rfl⟩]
theorem sgR_st {ob r c m s e ta pa fa : Nat} {F : mhF} {I : mhI} {R : Nat} {p q : Int32} (hb : sgBd p q) (hT : ∀ d, d < 3 → (¬ sgPa p q d = 0 → I ta (nI d) = nI (sgTi R p q d)) ∧ (sgPa p q d = 0 → ¬ I ta (nI d) < 0) ∧ I pa (nI d) = nI (sgPa p q d) ∧ I fa (nI d) = nI d) (h1 : F ob r = nI R) (h2 : F ob c = 0) (h3 : F ob m = 0) (h4 : F ob s = -9) (h5 : F ob e = 2) : sgR ob r c m s e ta pa fa (sgPa p q) F I (sgSt R p q) := ⟨hT, h1, h2, h3, h4, h5⟩
theorem sgTi_c {r : Nat} {p q : Int32} (hb : sgBd p q) (d : Nat) : (¬ sgPa p q d = 0 → (if 0 < sgSl p q d then 3 - (nI (sgLi r d) : Int32) else nI (sgLi r d)) = nI (sgTi r p q d)) ∧ (¬ (if 0 < sgSl p q d then 3 - (nI (sgLi r d) : Int32) else nI (sgLi r d)) < 0) ∧ (if 0 ≤ sgSl p q d then sgSl p q d else 0 - sgSl p q d) = nI (sgPa p q d) := by
  have h1 := sgPa_nI hb d
  have h2 := sgLi_le r d
  have e3 : (3 : Int32) - nI (sgLi r d) = nI (3 - sgLi r d) := by rw [show (3 : Int32) = nI 3 from rfl]; exact (pk_sub (by omega))
  refine ⟨fun hp => ?_, ?_, h1.1.symm⟩
  · have h0 : ¬ sgSl p q d = 0 := fun e => hp (by unfold sgPa; rw [e]; rfl)
    unfold sgTi
    rw [e3]
    by_cases c : sgSl p q d < 0
    · rw [if_pos c, if_neg (fun e => by grind)]
    · rw [if_neg c, if_pos (by grind)]
  · rw [e3]
    split
    · exact nI_pos (by omega)
    · exact nI_pos (by omega)
theorem sgTi_m {r : Nat} {p q : Int32} (hb : sgBd p q) (d : Nat) : (if sgSl p q d < 0 then nI (sgLi r d) else (3 : Int32) - nI (sgLi r d)) = nI (sgTi r p q d) ∧ (if sgSl p q d < 0 then 0 - sgSl p q d else sgSl p q d) = nI (sgPa p q d) := by
  have h1 := sgPa_nI hb d
  have h2 := sgLi_le r d
  have e3 : (3 : Int32) - nI (sgLi r d) = nI (3 - sgLi r d) := by rw [show (3 : Int32) = nI 3 from rfl]; exact (pk_sub (by omega))
  constructor
  · unfold sgTi
    rw [e3]
    split <;> rfl
  · rw [h1.1]
    by_cases c : sgSl p q d < 0
    · rw [if_pos c, if_neg (Int32.not_le.mpr c)]
    · rw [if_neg c, if_pos (Int32.not_lt.mp c)]
theorem sgLi_i (r : Nat) : nI (sgMid r) - nI (sgMid r) / 3 * 3 = nI (sgLi r 0) ∧ nI (sgMid r) - nI (sgMid r) / 3 * 3 = nI (sgLi r 1) ∧ (2 : Int32) * nI (sgMid r) - (2 : Int32) * nI (sgMid r) / 3 * 3 = nI (sgLi r 2) := by
  unfold sgLi sgMid
  by_cases c : r % 2 = 0
  · simp only [if_pos c]; decide
  · simp only [if_neg c]; decide
set_option maxHeartbeats 4000000 in
set_option maxRecDepth 100000 in
theorem sp_X4_setOut {l : Launch} {K : mhX} {Φ : mhQ} {S : List mhS} {F : mhF} {I : mhI} {J : mhJ} {P : mhP} (h4 : mhKX4 S) {w h r : Nat} {p q : Int32} (hr : r < gRooms w h) (hh : gRooms w h ≤ 24) (hb : sgBd p q) (hΦ : ∀ (F2 : mhF) (I2 : mhI), sgC (sgPa p q) F2 I2 (sgSt r p q) → frC F I F2 I2 → Φ none S F2 I2 J P) : mhOk l K mX4_setOut [.ref 6, .int (nI r), .int p, .int q] S F I J P Φ := by
  refine mhOk.of (by decide) (by decide) rfl (Nat.le_of_ble_eq_true rfl) ?_
  refine mh_aload_0 dX4_setOut_0 (q := 1) rfl ?_
  refine mh_iconst_2 dX4_setOut_1 (q := 2) rfl ?_
  refine mh_putI (Or.inl fw_X4_25) rfl rfl dX4_setOut_2 (q := 5) rfl (shX4_0 h4) rfl ?_
  refine mh_aload_0 dX4_setOut_5 (q := 6) rfl ?_
  refine mh_iconst_0 dX4_setOut_6 (q := 7) rfl ?_
  refine mh_putI (Or.inl fw_X4_33) rfl rfl dX4_setOut_7 (q := 10) rfl (shX4_0 h4) rfl ?_
  refine mh_aload_0 dX4_setOut_10 (q := 11) rfl ?_
  refine mh_iconst_0 dX4_setOut_11 (q := 12) rfl ?_
  refine mh_putI (Or.inl fw_X4_36) rfl rfl dX4_setOut_12 (q := 15) rfl (shX4_0 h4) rfl ?_
  refine mh_aload_0 dX4_setOut_15 (q := 16) rfl ?_
  refine mh_iload_1 dX4_setOut_16 (q := 17) rfl ?_
  refine mh_putI (Or.inl fw_X4_39) rfl rfl dX4_setOut_17 (q := 20) rfl (shX4_0 h4) rfl ?_
  refine mh_aload_0 dX4_setOut_20 (q := 21) rfl ?_
  refine mh_bipush (v := (-9)) dX4_setOut_21 (q := 23) rfl (by decide) ?_
  refine mh_putI (Or.inl fw_X4_42) rfl rfl dX4_setOut_23 (q := 26) rfl (shX4_0 h4) rfl ?_
  refine mh_iload_1 dX4_setOut_26 (q := 27) rfl ?_
  refine mh_callS1 ca_X4_setOut_27 (q := 30) rfl (by simp [Value.category]) ⟨Nat.zero_le _, Nat.zero_le _⟩ ?_
  refine sp_X4_thirdsIn (by omega) ?_
  refine mh_istore_4 dX4_setOut_30 (q := 32) rfl ?_
  refine mh_aload_0 dX4_setOut_32 (q := 33) rfl ?_
  refine mh_iconst_0 dX4_setOut_33 (q := 34) rfl ?_
  refine mh_iload_4 dX4_setOut_34 (q := 36) rfl ?_
  refine mh_iload_3 dX4_setOut_36 (q := 37) rfl ?_
  refine mh_callV3 ca_X4_setOut_37 (shX4_0 h4) (q := 40) rfl (by simp [Value.category]) ⟨Nat.zero_le _, Nat.zero_le _⟩ ?_
  refine sp_X4_aim (d := 0) h4 (by decide) ?_
  refine mh_aload_0 dX4_setOut_40 (q := 41) rfl ?_
  refine mh_iconst_1 dX4_setOut_41 (q := 42) rfl ?_
  refine mh_iload_4 dX4_setOut_42 (q := 44) rfl ?_
  refine mh_iload_2 dX4_setOut_44 (q := 45) rfl ?_
  refine mh_callV3 ca_X4_setOut_45 (shX4_0 h4) (q := 48) rfl (by simp [Value.category]) ⟨Nat.zero_le _, Nat.zero_le _⟩ ?_
  refine sp_X4_aim (d := 1) h4 (by decide) ?_
  refine mh_aload_0 dX4_setOut_48 (q := 49) rfl ?_
  refine mh_iconst_2 dX4_setOut_49 (q := 50) rfl ?_
  refine mh_iconst_2 dX4_setOut_50 (q := 51) rfl ?_
  refine mh_iload_4 dX4_setOut_51 (q := 53) rfl ?_
  refine mh_imul dX4_setOut_53 (q := 54) rfl ?_
  refine mh_iload_2 dX4_setOut_54 (q := 55) rfl ?_
  refine mh_iload_3 dX4_setOut_55 (q := 56) rfl ?_
  refine mh_iadd dX4_setOut_56 (q := 57) rfl ?_
  refine mh_callV3 ca_X4_setOut_57 (shX4_0 h4) (q := 60) rfl (by simp [Value.category]) ⟨Nat.zero_le _, Nat.zero_le _⟩ ?_
  refine sp_X4_aim (d := 2) h4 (by decide) ?_
  refine mh_return dX4_setOut_60 rfl ?_
  obtain ⟨l0, l1, l2⟩ := sgLi_i r
  rw [l0, l2]
  have t0 := sgTi_c (r := r) hb 0
  have t1 := sgTi_c (r := r) hb 1
  have t2 := sgTi_c (r := r) hb 2
  rw [← l0, l1] at *
  rw [show sgSl p q 0 = q from rfl] at t0
  rw [show sgSl p q 1 = p from rfl] at t1
  rw [show sgSl p q 2 = p + q from rfl] at t2
  refine hΦ _ _ (sgR_st hb (fun d hd => ?_) (by (repeat (first | rw [mhUF_at] | rw [mhUF_nk (by decide)])) <;> first | assumption | rfl) (by (repeat (first | rw [mhUF_at] | rw [mhUF_nk (by decide)])) <;> first | assumption | rfl) (by (repeat (first | rw [mhUF_at] | rw [mhUF_nk (by decide)])) <;> first | assumption | rfl) (by (repeat (first | rw [mhUF_at] | rw [mhUF_nk (by decide)])) <;> first | assumption | rfl) (by (repeat (first | rw [mhUF_at] | rw [mhUF_nk (by decide)])) <;> first | assumption | rfl)) ⟨fun b k e => by repeat rw [mhUF_nk (by omega)], fun b j e1 e2 e3 => by simp only [mhUI_ne e1, mhUI_ne e2, mhUI_ne e3]⟩
  rcases (show d = 0 ∨ d = 1 ∨ d = 2 by omega) with rfl | rfl | rfl
  · simp (decide := true) only [mhUI, and_self, if_true, if_false, and_true, and_false, false_and, true_and]
    exact ⟨t0.1, fun _ => t0.2.1, t0.2.2⟩
  · simp (decide := true) only [mhUI, and_self, if_true, if_false, and_true, and_false, false_and, true_and]
    exact ⟨t1.1, fun _ => t1.2.1, t1.2.2⟩
  · simp (decide := true) only [mhUI, and_self, if_true, if_false, and_true, and_false, false_and, true_and]
    exact ⟨t2.1, fun _ => t2.2.1, t2.2.2⟩
/-- the ways of a turn, as the reference lays them -/
def sgLay (r : Nat) (p q : Int32) (I : mhI) : Nat → mhI
  | 0 => I
  | d + 1 => mhUI (mhUI (mhUI (sgLay r p q I d) 30 (nI d) (nI (sgPa p q d))) 29 (nI d) (nI (sgTi r p q d))) 31 (nI d) (nI d)
theorem mhV_heap {l : Launch} {K : mhX} {M : mhM} {kc ks : Nat} {Φ : mhQ} {pc : Nat} {lo : List (Option Value)} {st : List Value} {S : List mhS} {F : mhF} {I I' : mhI} {J : mhJ} {P : mhP} (h : I' = I) (k : mhV l K M kc ks Φ pc lo st S F I J P) : mhV l K M kc ks Φ pc lo st S F I' J P := h ▸ k
theorem mhV_lo {l : Launch} {K : mhX} {M : mhM} {kc ks : Nat} {Φ : mhQ} {pc : Nat} {lo lo' : List (Option Value)} {st : List Value} {S : List mhS} {F : mhF} {I : mhI} {J : mhJ} {P : mhP} (h : lo' = lo) (k : mhV l K M kc ks Φ pc lo st S F I J P) : mhV l K M kc ks Φ pc lo' st S F I J P := h ▸ k
set_option maxHeartbeats 4000000 in
set_option maxRecDepth 100000 in
theorem lp_X4_look {l : Launch} {K : mhX} {kc ks : Nat} {Φ : mhQ} {S : List mhS} {J : mhJ} {P : mhP} (h4 : mhKX4 S) {p : Nat → Nat} {w h a : Nat} {kd : Nat → Int32} {n : Nat} (hn : n ≤ 200) (o2 o3 o4 : Option Value) : ∀ (m k : Nat) (F : mhF) (I : mhI) (g : mhSg), k + m = n → (g.2.2.2.2.2.2 = 2 → g.2.2.2.1 = k) → mhHs S F I a w h → mhPn I a w h kd → sgC p F I g → sgOk w h p g → (∀ (F2 : mhF) (I2 : mhI), sgC p F2 I2 (sgRun w h kd p m g) → frC F I F2 I2 → Φ none S F2 I2 J P) → mhV l K mX4_look kc ks Φ 11 [some (.ref 6), some (.ref a), o2, o3, o4, some (.int (nI n)), some (.int (nI k))] [] S F I J P := by
  intro m
  induction m with
  | zero =>
    intro k F I g hk hc hH hp hg ok hΦ
    refine mh_iload_6 dX4_look_11 (q := 13) rfl ?_
    refine mh_iload_5 dX4_look_13 (q := 15) rfl ?_
    refine mh_icmp_ge dX4_look_15 (tgt := 37) (q := 18) rfl rfl (fun _ => ?_) (fun hh => absurd (by rw [nI_leI (by omega) (by omega)]; omega) hh)
    refine mh_return dX4_look_37 rfl ?_
    exact hΦ F I hg frC.rf
  | succ m ih =>
    intro k F I g hk hc hH hp hg ok hΦ
    unfold sgRun at hΦ
    refine mh_iload_6 dX4_look_11 (q := 13) rfl ?_
    refine mh_iload_5 dX4_look_13 (q := 15) rfl ?_
    refine mh_icmp_ge dX4_look_15 (tgt := 37) (q := 18) rfl rfl (fun hh => absurd hh (show ¬ nI n ≤ nI k by rw [nI_leI (by omega) (by omega)]; omega)) (fun _ => ?_)
    refine mh_aload_0 dX4_look_18 (q := 19) rfl ?_
    refine mh_getI fl_X4_25 dX4_look_19 (q := 22) rfl (shX4_0 h4) rfl ?_
    rw [hg.2.2.2.2.2]
    refine mh_iconst_2 dX4_look_22 (q := 23) rfl ?_
    refine mh_icmp_ne dX4_look_23 (tgt := 37) (q := 26) rfl rfl (fun c23 => ?_) (fun c23 => ?_)
    · skip
      rw [if_neg c23] at hΦ
      refine mh_return dX4_look_37 rfl ?_
      exact hΦ F I hg frC.rf
    · skip
      replace c23 : g.2.2.2.2.2.2 = 2 := c23
      rw [if_pos c23] at hΦ
      have hc1 := hc c23
      refine mh_aload_0 dX4_look_26 (q := 27) rfl ?_
      refine mh_aload_1 dX4_look_27 (q := 28) rfl ?_
      refine mh_callV1 ca_X4_look_28 (shX4_0 h4) (q := 31) rfl (by simp [Value.category]) ⟨Nat.zero_le _, Nat.zero_le _⟩ ?_
      refine sp_X4_goOn h4 hH hp hg ok (by omega) (fun F2 I2 w1 w2 => ?_)
      refine mh_iinc_6 (v := 1) dX4_look_31 (q := 34) rfl (by decide) ?_
      refine mh_goto dX4_look_34 (tgt := 11) rfl ?_
      rw [nI_1]
      have st := sgStep_c (w := w) (h := h) (kd := kd) (p := p) (g := g)
      exact ih (k + 1) F2 I2 _ (by omega) (fun e => by rw [st.2 e, hc1]) (hH.fr w2) (hp.fr w2 hH.2.2.2.2.2.2.2.2.2.2) w1 (sgOk_step hH.2.1 ok (by omega)) (fun F3 I3 u1 u2 => hΦ F3 I3 u1 (w2.tr u2))
set_option maxHeartbeats 4000000 in
set_option maxRecDepth 100000 in
theorem sp_X4_look {l : Launch} {K : mhX} {Φ : mhQ} {S : List mhS} {F : mhF} {I : mhI} {J : mhJ} {P : mhP} (h4 : mhKX4 S) {w h a r n : Nat} {kd : Nat → Int32} {p q : Int32} (hH : mhHs S F I a w h) (hp : mhPn I a w h kd) (hr : r < gRooms w h) (hb : sgBd p q) (hn : n ≤ 200) (hΦ : ∀ (F2 : mhF) (I2 : mhI), sgC (sgPa p q) F2 I2 (sgRun w h kd (sgPa p q) n (sgSt r p q)) → frC F I F2 I2 → Φ none S F2 I2 J P) : mhOk l K mX4_look [.ref 6, .ref a, .int (nI r), .int p, .int q, .int (nI n)] S F I J P Φ := by
  refine mhOk.of (by decide) (by decide) rfl (Nat.le_of_ble_eq_true rfl) ?_
  refine mh_aload_0 dX4_look_0 (q := 1) rfl ?_
  refine mh_iload_2 dX4_look_1 (q := 2) rfl ?_
  refine mh_iload_3 dX4_look_2 (q := 3) rfl ?_
  refine mh_iload_4 dX4_look_3 (q := 5) rfl ?_
  refine mh_callV3 ca_X4_look_5 (shX4_0 h4) (q := 8) rfl (by simp [Value.category]) ⟨Nat.zero_le _, Nat.zero_le _⟩ ?_
  refine sp_X4_setOut h4 hr (gBd hH.2.1).1 hb (fun F1 I1 v1 v2 => ?_)
  refine mh_iconst_0 dX4_look_8 (q := 9) rfl ?_
  refine mh_istore_6 dX4_look_9 (q := 11) rfl ?_
  exact lp_X4_look (kc := mX4_look.2.2.2.2.cells) (ks := mX4_look.2.2.2.2.slots) h4 hn _ _ _ n 0 F1 I1 _ (by omega) (fun _ => rfl) (hH.fr v2) (hp.fr v2 hH.2.2.2.2.2.2.2.2.2.2) v1 (sgOk_st hb hr) (fun F2 I2 u1 u2 => hΦ F2 I2 u1 (v2.tr u2))
