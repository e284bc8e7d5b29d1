/-! the law: cell, some, side, behind -/
theorem wd_409 : Cond.constant "MirrorHouseLaw" 7 747796405 ∈ mhT := mhT2 (List.mem_of_getElem? (i := 156) rfl) rfl
theorem wd_413 : Cond.constant "MirrorHouseLaw" 8 2147483647 ∈ mhT := mhT2 (List.mem_of_getElem? (i := 160) rfl) rfl
theorem some_nn (x : Int32) : ¬ (x &&& 2147483647) < 0 := by
  rw [Int32.lt_iff_toInt_lt]
  have hm : (x &&& 2147483647).toBitVec.msb = false := by
    rw [Int32.toBitVec_and, BitVec.msb_and, show (2147483647 : Int32).toBitVec.msb = false by decide, Bool.and_false]
  have e : (x &&& 2147483647).toInt = ((x &&& 2147483647).toBitVec.toNat : Int) := by
    show BitVec.toInt _ = _
    rw [BitVec.toInt_eq_msb_cond, hm]
    rfl
  rw [e]
  show ¬ _ < (0 : Int)
  omega
theorem some_k {x : Int32} {n : Nat} (h0 : 0 < n) (hn : n < 2 ^ 31) : ∃ k, k < n ∧ (x &&& 2147483647) - (x &&& 2147483647) / nI n * nI n = nI k := by
  obtain ⟨a, ha, e⟩ := nI_of (some_nn x)
  rw [e, pk_rem ha h0 hn]
  exact ⟨a % n, Nat.mod_lt _ h0, rfl⟩
/-! a cell of the script, or a number made of its place -/
set_option maxHeartbeats 4000000 in
set_option maxRecDepth 100000 in
theorem sp_L_cell {l : Launch} {K : mhX} {Φ : mhQ} {S : List mhS} {F : mhF} {I : mhI} {J : mhJ} {P : mhP} {j : Nat} (hL : K.2.2.2.2.1 ≤ 260) (hj : j < 2147483648) (hΦ : ∀ x, Φ (some (.int x)) S F I J P) : mhOk l K mL_cell [.retAddr 0, .int (nI j)] S F I J P Φ := by
  refine mhOk.of (by decide) (by decide) rfl (Nat.le_of_ble_eq_true rfl) ?_
  refine mh_iload_1 dL_cell_0 (q := 1) rfl ?_
  refine mh_aloadT_0 dL_cell_1 (q := 2) rfl ?_
  refine mh_slen dL_cell_2 (q := 3) rfl ?_
  refine mh_icmp_ge dL_cell_3 (tgt := 12) (q := 6) rfl rfl (fun c3 => ?_) (fun c3 => ?_)
  · skip
    refine mh_ldc dL_cell_12 (q := 14) rfl wd_409 ?_
    refine mh_iload_1 dL_cell_14 (q := 15) rfl ?_
    refine mh_iconst_1 dL_cell_15 (q := 16) rfl ?_
    refine mh_iadd dL_cell_16 (q := 17) rfl ?_
    refine mh_imul dL_cell_17 (q := 18) rfl ?_
    refine mh_ireturn dL_cell_18 rfl rfl ?_
    exact hΦ _
  · skip
    refine mh_aloadT_0 dL_cell_6 (q := 7) rfl ?_
    refine mh_iload_1 dL_cell_7 (q := 8) rfl ?_
    have hk : j < K.2.2.2.2.1 := by
      rcases Nat.lt_or_ge j K.2.2.2.2.1 with q | q
      · exact q
      · exact absurd ((nI_leI (by omega) (by omega)).mpr q) c3
    refine mh_sld dL_cell_8 (q := 9) rfl (vp_in_nI hk (by omega)) ?_
    refine mh_goto dL_cell_9 (tgt := 18) rfl ?_
    refine mh_ireturn dL_cell_18 rfl rfl ?_
    exact hΦ _
set_option maxHeartbeats 4000000 in
set_option maxRecDepth 100000 in
theorem sp_L_some {l : Launch} {K : mhX} {Φ : mhQ} {S : List mhS} {F : mhF} {I : mhI} {J : mhJ} {P : mhP} {x : Int32} {n : Nat} (h0 : 0 < n) (hn : n < 2147483648) (hΦ : ∀ k, k < n → Φ (some (.int (nI k))) S F I J P) : mhOk l K mL_some [.int x, .int (nI n)] S F I J P Φ := by
  refine mhOk.of (by decide) (by decide) rfl (Nat.le_of_ble_eq_true rfl) ?_
  refine mh_iload_0 dL_some_0 (q := 1) rfl ?_
  refine mh_ldc dL_some_1 (q := 3) rfl wd_413 ?_
  refine mh_iand dL_some_3 (q := 4) rfl ?_
  refine mh_iload_1 dL_some_4 (q := 5) rfl ?_
  refine mh_irem dL_some_5 (q := 6) rfl (nI_ne0 h0 hn) ?_
  refine mh_ireturn dL_some_6 rfl rfl ?_
  obtain ⟨k, hk, e⟩ := some_k (x := x) h0 hn
  rw [e]
  exact hΦ k hk
/-- the law's house: wide, high, sides, the kinds -/
def lwOf (S : List mhS) (I : mhI) (b w h : Nat) (kd : Nat → Int32) : Prop := S[b]? = some (.inl (0, 50)) ∧ gOk w h ∧ I b 0 = nI w ∧ I b 1 = nI h ∧ I b 2 = nI (gSides w h) ∧ ∀ k, k < gSides w h → I b (nI (3 + k)) = kd k
def lsI (w h r d : Int32) : Int32 := if ¬ r - r / 2 * 2 = 0 then (if ¬ d = 2 then (if ¬ d = 1 then (if ¬ r / 2 / w = h - 1 then 3 * (r / 2 + w) + 2 else 3 * w * h + h + (r / 2 - r / 2 / w * w)) else (if ¬ r / 2 - r / 2 / w * w = w - 1 then 3 * (r / 2) + 4 else 3 * w * h + r / 2 / w)) else 3 * (r / 2)) else 3 * (r / 2) + (if ¬ d = 2 then (if ¬ d = 1 then 2 else 1) else 0)
theorem gS1l : ∀ w ∈ [1, 2, 3, 4], ∀ h ∈ [1, 2, 3], ∀ r ∈ List.range (gRooms w h), ∀ d ∈ [0, 1, 2], lsI (nI w) (nI h) (nI r) (nI d) = nI (gSide w h r d) := by decide +kernel
theorem gS1 {w h r d : Nat} (g : gOk w h) (hr : r < gRooms w h) (hd : d < 3) : lsI (nI w) (nI h) (nI r) (nI d) = nI (gSide w h r d) := gS1l w (gWl g.1 g.2.1) h (gHl g.2.2.1 g.2.2.2) r (List.mem_range.mpr hr) d (gDl hd)
/-! the side of a room of a way -/
set_option maxHeartbeats 4000000 in
set_option maxRecDepth 100000 in
theorem sp_L_side {l : Launch} {K : mhX} {Φ : mhQ} {S : List mhS} {F : mhF} {I : mhI} {J : mhJ} {P : mhP} {b w h r d : Nat} {kd : Nat → Int32} (hO : lwOf S I b w h kd) (hr : r < gRooms w h) (hd : d < 3) (hΦ : Φ (some (.int (nI (gSide w h r d)))) S F I J P) : mhOk l K mL_side [.ref b, .int (nI r), .int (nI d)] S F I J P Φ := by
  refine mhOk.of (by decide) (by decide) rfl (Nat.le_of_ble_eq_true rfl) ?_
  refine mh_iload_1 dL_side_0 (q := 1) rfl ?_
  refine mh_iconst_2 dL_side_1 (q := 2) rfl ?_
  refine mh_idiv dL_side_2 (q := 3) rfl (by decide) ?_
  refine mh_istore_3 dL_side_3 (q := 4) rfl ?_
  refine mh_iload_1 dL_side_4 (q := 5) rfl ?_
  refine mh_iconst_2 dL_side_5 (q := 6) rfl ?_
  refine mh_irem dL_side_6 (q := 7) rfl (by decide) ?_
  refine mh_if_ne dL_side_7 (tgt := 34) (q := 10) rfl rfl (fun c7 => ?_) (fun c7 => ?_)
  · skip
    refine mh_iload_2 dL_side_34 (q := 35) rfl ?_
    refine mh_iconst_2 dL_side_35 (q := 36) rfl ?_
    refine mh_icmp_ne dL_side_36 (tgt := 43) (q := 39) rfl rfl (fun c36 => ?_) (fun c36 => ?_)
    · skip
      refine mh_iload_3 dL_side_43 (q := 44) rfl ?_
      refine mh_aload_0 dL_side_44 (q := 45) rfl ?_
      refine mh_iconst_0 dL_side_45 (q := 46) rfl ?_
      refine mh_iald dL_side_46 (q := 47) rfl hO.1 (vp_in_nI (n := 0) (by decide) (by decide)) ?_
      rw [hO.2.2.1]
      refine mh_irem dL_side_47 (q := 48) rfl (gW0 hO.2.1) ?_
      refine mh_istore_4 dL_side_48 (q := 50) rfl ?_
      refine mh_iload_3 dL_side_50 (q := 51) rfl ?_
      refine mh_aload_0 dL_side_51 (q := 52) rfl ?_
      refine mh_iconst_0 dL_side_52 (q := 53) rfl ?_
      refine mh_iald dL_side_53 (q := 54) rfl hO.1 (vp_in_nI (n := 0) (by decide) (by decide)) ?_
      rw [hO.2.2.1]
      refine mh_idiv dL_side_54 (q := 55) rfl (gW0 hO.2.1) ?_
      refine mh_istore_5 dL_side_55 (q := 57) rfl ?_
      refine mh_iload_2 dL_side_57 (q := 58) rfl ?_
      refine mh_iconst_1 dL_side_58 (q := 59) rfl ?_
      refine mh_icmp_ne dL_side_59 (tgt := 93) (q := 62) rfl rfl (fun c59 => ?_) (fun c59 => ?_)
      · skip
        refine mh_iload_5 dL_side_93 (q := 95) rfl ?_
        refine mh_aload_0 dL_side_95 (q := 96) rfl ?_
        refine mh_iconst_1 dL_side_96 (q := 97) rfl ?_
        refine mh_iald dL_side_97 (q := 98) rfl hO.1 (vp_in_nI (n := 1) (by decide) (by decide)) ?_
        rw [hO.2.2.2.1]
        refine mh_iconst_1 dL_side_98 (q := 99) rfl ?_
        refine mh_isub dL_side_99 (q := 100) rfl ?_
        refine mh_icmp_ne dL_side_100 (tgt := 122) (q := 103) rfl rfl (fun c100 => ?_) (fun c100 => ?_)
        · skip
          refine mh_iconst_3 dL_side_122 (q := 123) rfl ?_
          refine mh_iload_3 dL_side_123 (q := 124) rfl ?_
          refine mh_aload_0 dL_side_124 (q := 125) rfl ?_
          refine mh_iconst_0 dL_side_125 (q := 126) rfl ?_
          refine mh_iald dL_side_126 (q := 127) rfl hO.1 (vp_in_nI (n := 0) (by decide) (by decide)) ?_
          rw [hO.2.2.1]
          refine mh_iadd dL_side_127 (q := 128) rfl ?_
          refine mh_imul dL_side_128 (q := 129) rfl ?_
          refine mh_iconst_2 dL_side_129 (q := 130) rfl ?_
          refine mh_iadd dL_side_130 (q := 131) rfl ?_
          refine mh_ireturn dL_side_131 rfl rfl ?_
          refine mh_cl hΦ ?_
          rw [← gS1 hO.2.1 hr hd]
          unfold lsI
          (repeat' split) <;> first | rfl | contradiction
        · skip
          refine mh_iconst_3 dL_side_103 (q := 104) rfl ?_
          refine mh_aload_0 dL_side_104 (q := 105) rfl ?_
          refine mh_iconst_0 dL_side_105 (q := 106) rfl ?_
          refine mh_iald dL_side_106 (q := 107) rfl hO.1 (vp_in_nI (n := 0) (by decide) (by decide)) ?_
          rw [hO.2.2.1]
          refine mh_imul dL_side_107 (q := 108) rfl ?_
          refine mh_aload_0 dL_side_108 (q := 109) rfl ?_
          refine mh_iconst_1 dL_side_109 (q := 110) rfl ?_
          refine mh_iald dL_side_110 (q := 111) rfl hO.1 (vp_in_nI (n := 1) (by decide) (by decide)) ?_
          rw [hO.2.2.2.1]
          refine mh_imul dL_side_111 (q := 112) rfl ?_
          refine mh_aload_0 dL_side_112 (q := 113) rfl ?_
          refine mh_iconst_1 dL_side_113 (q := 114) rfl ?_
          refine mh_iald dL_side_114 (q := 115) rfl hO.1 (vp_in_nI (n := 1) (by decide) (by decide)) ?_
          rw [hO.2.2.2.1]
          refine mh_iadd dL_side_115 (q := 116) rfl ?_
          refine mh_iload_4 dL_side_116 (q := 118) rfl ?_
          refine mh_iadd dL_side_118 (q := 119) rfl ?_
          refine mh_goto dL_side_119 (tgt := 131) rfl ?_
          refine mh_ireturn dL_side_131 rfl rfl ?_
          refine mh_cl hΦ ?_
          rw [← gS1 hO.2.1 hr hd]
          unfold lsI
          (repeat' split) <;> first | rfl | contradiction
      · skip
        refine mh_iload_4 dL_side_62 (q := 64) rfl ?_
        refine mh_aload_0 dL_side_64 (q := 65) rfl ?_
        refine mh_iconst_0 dL_side_65 (q := 66) rfl ?_
        refine mh_iald dL_side_66 (q := 67) rfl hO.1 (vp_in_nI (n := 0) (by decide) (by decide)) ?_
        rw [hO.2.2.1]
        refine mh_iconst_1 dL_side_67 (q := 68) rfl ?_
        refine mh_isub dL_side_68 (q := 69) rfl ?_
        refine mh_icmp_ne dL_side_69 (tgt := 87) (q := 72) rfl rfl (fun c69 => ?_) (fun c69 => ?_)
        · skip
          refine mh_iconst_3 dL_side_87 (q := 88) rfl ?_
          refine mh_iload_3 dL_side_88 (q := 89) rfl ?_
          refine mh_imul dL_side_89 (q := 90) rfl ?_
          refine mh_iconst_4 dL_side_90 (q := 91) rfl ?_
          refine mh_iadd dL_side_91 (q := 92) rfl ?_
          refine mh_ireturn dL_side_92 rfl rfl ?_
          refine mh_cl hΦ ?_
          rw [← gS1 hO.2.1 hr hd]
          unfold lsI
          (repeat' split) <;> first | rfl | contradiction
        · skip
          refine mh_iconst_3 dL_side_72 (q := 73) rfl ?_
          refine mh_aload_0 dL_side_73 (q := 74) rfl ?_
          refine mh_iconst_0 dL_side_74 (q := 75) rfl ?_
          refine mh_iald dL_side_75 (q := 76) rfl hO.1 (vp_in_nI (n := 0) (by decide) (by decide)) ?_
          rw [hO.2.2.1]
          refine mh_imul dL_side_76 (q := 77) rfl ?_
          refine mh_aload_0 dL_side_77 (q := 78) rfl ?_
          refine mh_iconst_1 dL_side_78 (q := 79) rfl ?_
          refine mh_iald dL_side_79 (q := 80) rfl hO.1 (vp_in_nI (n := 1) (by decide) (by decide)) ?_
          rw [hO.2.2.2.1]
          refine mh_imul dL_side_80 (q := 81) rfl ?_
          refine mh_iload_5 dL_side_81 (q := 83) rfl ?_
          refine mh_iadd dL_side_83 (q := 84) rfl ?_
          refine mh_goto dL_side_84 (tgt := 92) rfl ?_
          refine mh_ireturn dL_side_92 rfl rfl ?_
          refine mh_cl hΦ ?_
          rw [← gS1 hO.2.1 hr hd]
          unfold lsI
          (repeat' split) <;> first | rfl | contradiction
    · skip
      refine mh_iconst_3 dL_side_39 (q := 40) rfl ?_
      refine mh_iload_3 dL_side_40 (q := 41) rfl ?_
      refine mh_imul dL_side_41 (q := 42) rfl ?_
      refine mh_ireturn dL_side_42 rfl rfl ?_
      refine mh_cl hΦ ?_
      rw [← gS1 hO.2.1 hr hd]
      unfold lsI
      (repeat' split) <;> first | rfl | contradiction
  · skip
    refine mh_iconst_3 dL_side_10 (q := 11) rfl ?_
    refine mh_iload_3 dL_side_11 (q := 12) rfl ?_
    refine mh_imul dL_side_12 (q := 13) rfl ?_
    refine mh_iload_2 dL_side_13 (q := 14) rfl ?_
    refine mh_iconst_2 dL_side_14 (q := 15) rfl ?_
    refine mh_icmp_ne dL_side_15 (tgt := 22) (q := 18) rfl rfl (fun c15 => ?_) (fun c15 => ?_)
    · skip
      refine mh_iload_2 dL_side_22 (q := 23) rfl ?_
      refine mh_iconst_1 dL_side_23 (q := 24) rfl ?_
      refine mh_icmp_ne dL_side_24 (tgt := 31) (q := 27) rfl rfl (fun c24 => ?_) (fun c24 => ?_)
      · skip
        refine mh_iconst_2 dL_side_31 (q := 32) rfl ?_
        refine mh_iadd dL_side_32 (q := 33) rfl ?_
        refine mh_ireturn dL_side_33 rfl rfl ?_
        refine mh_cl hΦ ?_
        rw [← gS1 hO.2.1 hr hd]
        unfold lsI
        (repeat' split) <;> first | rfl | contradiction
      · skip
        refine mh_iconst_1 dL_side_27 (q := 28) rfl ?_
        refine mh_goto dL_side_28 (tgt := 32) rfl ?_
        refine mh_iadd dL_side_32 (q := 33) rfl ?_
        refine mh_ireturn dL_side_33 rfl rfl ?_
        refine mh_cl hΦ ?_
        rw [← gS1 hO.2.1 hr hd]
        unfold lsI
        (repeat' split) <;> first | rfl | contradiction
    · skip
      refine mh_iconst_0 dL_side_18 (q := 19) rfl ?_
      refine mh_goto dL_side_19 (tgt := 32) rfl ?_
      refine mh_iadd dL_side_32 (q := 33) rfl ?_
      refine mh_ireturn dL_side_33 rfl rfl ?_
      refine mh_cl hΦ ?_
      rw [← gS1 hO.2.1 hr hd]
      unfold lsI
      (repeat' split) <;> first | rfl | contradiction
theorem gBhl : ∀ w ∈ [1, 2, 3, 4], ∀ h ∈ [1, 2, 3], ∀ r ∈ List.range (gRooms w h), ∀ d ∈ [0, 1, 2], ∀ q ∈ List.range (gRooms w h), ∀ e ∈ [0, 1, 2], q ≠ r → gSide w h q e = gSide w h r d → gB w h r d = nI q := by decide +kernel
theorem gBnl : ∀ w ∈ [1, 2, 3, 4], ∀ h ∈ [1, 2, 3], ∀ r ∈ List.range (gRooms w h), ∀ d ∈ [0, 1, 2], (∀ q ∈ List.range (gRooms w h), ∀ e ∈ [0, 1, 2], q ≠ r → gSide w h q e ≠ gSide w h r d) → gB w h r d = -9 := by decide +kernel
theorem gBh {w h r d q e : Nat} (g : gOk w h) (hr : r < gRooms w h) (hd : d < 3) (hq : q < gRooms w h) (he : e < 3) (hne : q ≠ r) (hs : gSide w h q e = gSide w h r d) : gB w h r d = nI q := gBhl w (gWl g.1 g.2.1) _ (gHl g.2.2.1 g.2.2.2) r (List.mem_range.mpr hr) d (gDl hd) q (List.mem_range.mpr hq) e (gDl he) hne hs
theorem gBn {w h r d : Nat} (g : gOk w h) (hr : r < gRooms w h) (hd : d < 3) (hn : ∀ q, q < gRooms w h → ∀ e, e < 3 → q ≠ r → gSide w h q e ≠ gSide w h r d) : gB w h r d = -9 := gBnl w (gWl g.1 g.2.1) _ (gHl g.2.2.1 g.2.2.2) r (List.mem_range.mpr hr) d (gDl hd) (fun q hq e he => hn q (List.mem_range.mp hq) e (by simp at he; omega))
set_option maxHeartbeats 4000000 in
set_option maxRecDepth 100000 in
theorem lp_L_behindE {l : Launch} {K : mhX} {kc ks : Nat} {Φ : mhQ} {S : List mhS} {F : mhF} {I : mhI} {J : mhJ} {P : mhP} {b w h r d : Nat} {kd : Nat → Int32} (hO : lwOf S I b w h kd) (hr : r < gRooms w h) (hd : d < 3) (hΦ : Φ (some (.int (gB w h r d))) S F I J P) {q : Nat} (hq : q < gRooms w h) (hne : q ≠ r) : ∀ (m e : Nat), e + m = 3 → (∀ x, x < e → gSide w h q x ≠ gSide w h r d) → (∀ o4, (∀ x, x < 3 → gSide w h q x ≠ gSide w h r d) → mhV l K mL_behind kc ks Φ 51 [some (.ref b), some (.int (nI r)), some (.int (nI (gSide w h r d))), some (.int (nI q)), o4] [] S F I J P) → mhV l K mL_behind kc ks Φ 26 [some (.ref b), some (.int (nI r)), some (.int (nI (gSide w h r d))), some (.int (nI q)), some (.int (nI e))] [] S F I J P := by
  have hbd := gBd hO.2.1
  intro m
  induction m with
  | zero =>
    intro e he hs kk
    obtain rfl : e = 3 := by omega
    refine mh_iload_4 dL_behind_26 (q := 28) rfl ?_
    refine mh_iconst_3 dL_behind_28 (q := 29) rfl ?_
    refine mh_icmp_ge dL_behind_29 (tgt := 51) (q := 32) rfl rfl (fun _ => ?_) (fun hh => absurd (by decide) hh)
    exact kk _ hs
  | succ m ih =>
    intro e he hs kk
    refine mh_iload_4 dL_behind_26 (q := 28) rfl ?_
    refine mh_iconst_3 dL_behind_28 (q := 29) rfl ?_
    refine mh_icmp_ge dL_behind_29 (tgt := 51) (q := 32) rfl rfl (fun hh => absurd hh (by rw [show (3 : Int32) = nI 3 from rfl, nI_leI (by omega) (by omega)]; omega)) (fun _ => ?_)
    refine mh_aload_0 dL_behind_32 (q := 33) rfl ?_
    refine mh_iload_3 dL_behind_33 (q := 34) rfl ?_
    refine mh_iload_4 dL_behind_34 (q := 36) rfl ?_
    refine mh_callS3 ca_L_behind_36 (q := 39) rfl (by simp [Value.category]) ⟨Nat.zero_le _, Nat.zero_le _⟩ ?_
    refine sp_L_side hO hq (by omega) ?_
    refine mh_iload_2 dL_behind_39 (q := 40) rfl ?_
    refine mh_icmp_ne dL_behind_40 (tgt := 45) (q := 43) rfl rfl (fun c40 => ?_) (fun c40 => ?_)
    · skip
      refine mh_iinc_4 (v := 1) dL_behind_45 (q := 48) rfl (by decide) ?_
      refine mh_goto dL_behind_48 (tgt := 26) rfl ?_
      rw [show nI e + 1 = nI (e + 1) from nI_add e 1]
      refine ih (e + 1) (by omega) (fun x hx => ?_) kk
      rcases Nat.lt_or_ge x e with z | z
      · exact hs x z
      · rw [show x = e by omega]
        exact fun z => c40 (by rw [z])
    · skip
      refine mh_iload_3 dL_behind_43 (q := 44) rfl ?_
      refine mh_ireturn dL_behind_44 rfl rfl ?_
      have e1 : gSide w h q e = gSide w h r d := by
        have s1 := (gT1 hO.2.1 hq (d := e) (by omega)).2.1
        have s2 := (gT1 hO.2.1 hr hd).2.1
        exact (nI_eq (by omega) (by omega)).mp c40
      rw [← gBh hO.2.1 hr hd hq (by omega) hne e1]
      exact hΦ
set_option maxHeartbeats 4000000 in
set_option maxRecDepth 100000 in
theorem lp_L_behind {l : Launch} {K : mhX} {kc ks : Nat} {Φ : mhQ} {S : List mhS} {F : mhF} {I : mhI} {J : mhJ} {P : mhP} {b w h r d : Nat} {kd : Nat → Int32} (hO : lwOf S I b w h kd) (hr : r < gRooms w h) (hd : d < 3) (hΦ : Φ (some (.int (gB w h r d))) S F I J P) : ∀ (m q : Nat) (o4 : Option Value), q + m = gRooms w h → (∀ y, y < q → ∀ e, e < 3 → y ≠ r → gSide w h y e ≠ gSide w h r d) → mhV l K mL_behind kc ks Φ 2 [some (.ref b), some (.int (nI r)), some (.int (nI (gSide w h r d))), some (.int (nI q)), o4] [] S F I J P := by
  have hbd := gBd hO.2.1
  intro m
  induction m with
  | zero =>
    intro q o4 he hs
    obtain rfl : q = gRooms w h := by omega
    refine mh_iload_3 dL_behind_2 (q := 3) rfl ?_
    refine mh_iconst_2 dL_behind_3 (q := 4) rfl ?_
    refine mh_aload_0 dL_behind_4 (q := 5) rfl ?_
    refine mh_iconst_0 dL_behind_5 (q := 6) rfl ?_
    refine mh_iald dL_behind_6 (q := 7) rfl hO.1 (vp_in_nI (n := 0) (by decide) (by decide)) ?_
    rw [hO.2.2.1]
    refine mh_imul dL_behind_7 (q := 8) rfl ?_
    refine mh_aload_0 dL_behind_8 (q := 9) rfl ?_
    refine mh_iconst_1 dL_behind_9 (q := 10) rfl ?_
    refine mh_iald dL_behind_10 (q := 11) rfl hO.1 (vp_in_nI (n := 1) (by decide) (by decide)) ?_
    rw [hO.2.2.2.1]
    refine mh_imul dL_behind_11 (q := 12) rfl ?_
    rw [gRm hO.2.1]
    refine mh_icmp_ge dL_behind_12 (tgt := 57) (q := 15) rfl rfl (fun _ => ?_) (fun hh => absurd (Int32.le_refl _) hh)
    refine mh_bipush (v := (-9)) dL_behind_57 (q := 59) rfl (by decide) ?_
    refine mh_ireturn dL_behind_59 rfl rfl ?_
    refine mh_cl hΦ ?_
    exact gBn hO.2.1 hr hd hs
  | succ m ih =>
    intro q o4 he hs
    have next : ∀ (o4 : Option Value), (∀ e, e < 3 → q ≠ r → gSide w h q e ≠ gSide w h r d) → mhV l K mL_behind kc ks Φ 51 [some (.ref b), some (.int (nI r)), some (.int (nI (gSide w h r d))), some (.int (nI q)), o4] [] S F I J P := by
      intro o4 hn
      refine mh_iinc_3 (v := 1) dL_behind_51 (q := 54) rfl (by decide) ?_
      refine mh_goto dL_behind_54 (tgt := 2) rfl ?_
      rw [show nI q + 1 = nI (q + 1) from nI_add q 1]
      refine ih (q + 1) o4 (by omega) (fun y hy => ?_)
      rcases Nat.lt_or_ge y q with z | z
      · exact hs y z
      · rw [show y = q by omega]
        exact hn
    refine mh_iload_3 dL_behind_2 (q := 3) rfl ?_
    refine mh_iconst_2 dL_behind_3 (q := 4) rfl ?_
    refine mh_aload_0 dL_behind_4 (q := 5) rfl ?_
    refine mh_iconst_0 dL_behind_5 (q := 6) rfl ?_
    refine mh_iald dL_behind_6 (q := 7) rfl hO.1 (vp_in_nI (n := 0) (by decide) (by decide)) ?_
    rw [hO.2.2.1]
    refine mh_imul dL_behind_7 (q := 8) rfl ?_
    refine mh_aload_0 dL_behind_8 (q := 9) rfl ?_
    refine mh_iconst_1 dL_behind_9 (q := 10) rfl ?_
    refine mh_iald dL_behind_10 (q := 11) rfl hO.1 (vp_in_nI (n := 1) (by decide) (by decide)) ?_
    rw [hO.2.2.2.1]
    refine mh_imul dL_behind_11 (q := 12) rfl ?_
    rw [gRm hO.2.1]
    refine mh_icmp_ge dL_behind_12 (tgt := 57) (q := 15) rfl rfl (fun hh => absurd hh (by rw [nI_leI (by omega) (by omega)]; omega)) (fun _ => ?_)
    refine mh_iload_3 dL_behind_15 (q := 16) rfl ?_
    refine mh_iload_1 dL_behind_16 (q := 17) rfl ?_
    refine mh_icmp_ne dL_behind_17 (tgt := 23) (q := 20) rfl rfl (fun c17 => ?_) (fun c17 => ?_)
    · skip
      refine mh_iconst_0 dL_behind_23 (q := 24) rfl ?_
      refine mh_istore_4 dL_behind_24 (q := 26) rfl ?_
      have hne : q ≠ r := fun z => c17 (by rw [z])
      exact lp_L_behindE hO hr hd hΦ (by omega) hne 3 0 (by omega) (fun x hx => absurd hx (Nat.not_lt_zero x)) (fun o4 hn => next o4 (fun e he _ => hn e he))
    · skip
      refine mh_goto dL_behind_20 (tgt := 51) rfl ?_
      exact next _ (fun e he hne => absurd ((nI_eq (by omega) (by omega)).mp c17) hne)
/-! the room behind a side -/
set_option maxHeartbeats 4000000 in
set_option maxRecDepth 100000 in
theorem sp_L_behind {l : Launch} {K : mhX} {Φ : mhQ} {S : List mhS} {F : mhF} {I : mhI} {J : mhJ} {P : mhP} {b w h r d : Nat} {kd : Nat → Int32} (hO : lwOf S I b w h kd) (hr : r < gRooms w h) (hd : d < 3) (hΦ : Φ (some (.int (gB w h r d))) S F I J P) : mhOk l K mL_behind [.ref b, .int (nI r), .int (nI (gSide w h r d))] S F I J P Φ := by
  refine mhOk.of (by decide) (by decide) rfl (Nat.le_of_ble_eq_true rfl) ?_
  refine mh_iconst_0 dL_behind_0 (q := 1) rfl ?_
  refine mh_istore_3 dL_behind_1 (q := 2) rfl ?_
  exact lp_L_behind hO hr hd hΦ (gRooms w h) 0 none (by omega) (fun y hy => absurd hy (Nat.not_lt_zero y))
