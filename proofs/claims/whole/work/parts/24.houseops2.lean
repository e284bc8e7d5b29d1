/-! houses: ofHouse, ofSide, side, pane -/
def mhOhR (w h : Nat) (cn : Int32 → Int32) (sm what : Int32) : Int32 := if what = 0 then nI w else if what = 1 then nI h else if what = 2 then nI (gRooms w h) else if what = 3 then nI (gSides w h) else if what = 4 then cn 0 else if what = 5 then cn 1 else if what = 6 then cn 2 else if what = 7 then sm else -2
def mhOsR (w h k : Nat) (kd sm what : Int32) : Int32 := if what = 0 then kd else if what = 1 then mhTab w h 0 (nI k) else if what = 2 then mhTab w h 1 (nI k) else if what = 3 then mhTab w h 2 (nI k) else if what = 4 then sm else -2
def mhSiR (w h r : Nat) (way : Int32) : Int32 := if way = 0 then nI (gSide w h r 0) else if way = 1 then nI (gSide w h r 1) else if way = 2 then nI (gSide w h r 2) else -2
theorem mh_way {x : Int32} (h : 0 ≤ x ∧ x ≤ 2) : ∃ d, d < 3 ∧ x = nI d := mh_of2 (n := 2) rfl h.1 h.2
theorem mhSiR_at {w h r d : Nat} (hd : d < 3) : mhSiR w h r (nI d) = nI (gSide w h r d) := by
  rcases (show d = 0 ∨ d = 1 ∨ d = 2 by omega) with rfl | rfl | rfl <;> rfl
theorem mhSiR_no {w h r : Nat} {x : Int32} (hx : ¬ (0 ≤ x ∧ x ≤ 2)) : mhSiR w h r x = -2 := by grind [mhSiR]
set_option maxHeartbeats 4000000 in
set_option maxRecDepth 100000 in
theorem sp_X6_ofHouse {l : Launch} {K : mhX} {Φ : mhQ} {S : List mhS} {F : mhF} {I : mhI} {J : mhJ} {P : mhP} {nh : Nat} {wd hg aH : Nat → Nat} (hC : mhHC S F I P nh wd hg aH) {x what : Int32} (hn : ¬ vHs nh x → Φ (some (.int (-1))) S F I J P) (ht : ∀ j, j < nh → x = nI j → Φ (some (.int (mhOhR (wd j) (hg j) (fun v => mhCnt (fun k => I (aH j + 1) (nI k)) v (gSides (wd j) (hg j))) (mhSum (fun k => I (aH j + 2) (nI k)) (gSides (wd j) (hg j))) what))) S F I J P) : mhOk l K mX6_ofHouse [.ref 0, .int x, .int what] S F I J P Φ := by
  refine mhOk.of (by decide) (by decide) rfl (Nat.le_of_ble_eq_true rfl) ?_
  refine mh_aload_0 dX6_ofHouse_0 (q := 1) rfl ?_
  refine mh_iload_1 dX6_ofHouse_1 (q := 2) rfl ?_
  refine mh_callV1 ca_X6_ofHouse_2 (shX6_0 hC.1) (q := 5) rfl (by simp [Value.category]) ⟨Nat.zero_le _, Nat.zero_le _⟩ ?_
  refine sp_X6_houseAt hC (fun hk => ?_) (fun j hj ej => ?_)
  · skip
    refine mh_astoreN_3 dX6_ofHouse_5 (q := 6) rfl ?_
    refine mh_aloadN_3 dX6_ofHouse_6 (q := 7) rfl ?_
    refine mh_ifnonnullN dX6_ofHouse_7 (q := 10) rfl ?_
    refine mh_iconst_m1 dX6_ofHouse_10 (q := 11) rfl ?_
    refine mh_ireturn dX6_ofHouse_11 rfl rfl ?_
    exact hn hk
  · skip
    subst ej
    refine mh_astore_3 dX6_ofHouse_5 (q := 6) rfl ?_
    refine mh_aload_3 dX6_ofHouse_6 (q := 7) rfl ?_
    refine mh_ifnonnullR dX6_ofHouse_7 (tgt := 12) rfl ?_
    refine mh_iload_2 dX6_ofHouse_12 (q := 13) rfl ?_
    refine mh_tsw dX6_ofHouse_13 (tgt := 103) rfl (fun c13 => ?_) (fun i13 j13 c13 => ?_)
    · skip
      replace c13 : _ < (0 : Int32) ∨ (7 : Int32) < _ := c13.imp Int32.lt_iff_toInt_lt.mpr Int32.lt_iff_toInt_lt.mpr
      refine mh_bipush (v := (-2)) dX6_ofHouse_103 (q := 105) rfl (by decide) ?_
      refine mh_ireturn dX6_ofHouse_105 rfl rfl ?_
      exact mh_cl (ht j hj rfl) (by grind [mhOhR])
    · rcases (show i13 = 0 ∨ i13 = 1 ∨ i13 = 2 ∨ i13 = 3 ∨ i13 = 4 ∨ i13 = 5 ∨ i13 = 6 ∨ i13 = 7 by omega) with rfl | rfl | rfl | rfl | rfl | rfl | rfl | rfl
      · refine ⟨47, 60, rfl, rfl, ?_⟩
        replace c13 : _ = (0 : Int32) := Int32.toInt_inj.mp c13
        refine mh_aload_3 dX6_ofHouse_60 (q := 61) rfl ?_
        refine mh_getI fl_X6_125 dX6_ofHouse_61 (q := 64) rfl (shX1_0 (hC.2.2.2 j hj).2.1) rfl ?_
        rw [(hC.2.2.2 j hj).2.2.2.1]
        refine mh_ireturn dX6_ofHouse_64 rfl rfl ?_
        exact mh_cl (ht j hj rfl) (by grind [mhOhR])
      · refine ⟨52, 65, rfl, rfl, ?_⟩
        replace c13 : _ = (1 : Int32) := Int32.toInt_inj.mp c13
        refine mh_aload_3 dX6_ofHouse_65 (q := 66) rfl ?_
        refine mh_getI fl_X6_128 dX6_ofHouse_66 (q := 69) rfl (shX1_0 (hC.2.2.2 j hj).2.1) rfl ?_
        rw [(hC.2.2.2 j hj).2.2.2.2.1]
        refine mh_ireturn dX6_ofHouse_69 rfl rfl ?_
        exact mh_cl (ht j hj rfl) (by grind [mhOhR])
      · refine ⟨57, 70, rfl, rfl, ?_⟩
        replace c13 : _ = (2 : Int32) := Int32.toInt_inj.mp c13
        refine mh_aload_3 dX6_ofHouse_70 (q := 71) rfl ?_
        refine mh_getI fl_X6_131 dX6_ofHouse_71 (q := 74) rfl (shX1_0 (hC.2.2.2 j hj).2.1) rfl ?_
        rw [(hC.2.2.2 j hj).2.2.2.2.2.1]
        refine mh_ireturn dX6_ofHouse_74 rfl rfl ?_
        exact mh_cl (ht j hj rfl) (by grind [mhOhR])
      · refine ⟨62, 75, rfl, rfl, ?_⟩
        replace c13 : _ = (3 : Int32) := Int32.toInt_inj.mp c13
        refine mh_aload_3 dX6_ofHouse_75 (q := 76) rfl ?_
        refine mh_getI fl_X6_115 dX6_ofHouse_76 (q := 79) rfl (shX1_0 (hC.2.2.2 j hj).2.1) rfl ?_
        rw [(hC.2.2.2 j hj).2.2.2.2.2.2.1]
        refine mh_ireturn dX6_ofHouse_79 rfl rfl ?_
        exact mh_cl (ht j hj rfl) (by grind [mhOhR])
      · refine ⟨67, 80, rfl, rfl, ?_⟩
        replace c13 : _ = (4 : Int32) := Int32.toInt_inj.mp c13
        refine mh_aload_3 dX6_ofHouse_80 (q := 81) rfl ?_
        refine mh_iconst_0 dX6_ofHouse_81 (q := 82) rfl ?_
        refine mh_callV1 ca_X6_ofHouse_82 (shX1_0 (hC.2.2.2 j hj).2.1) (q := 85) rfl (by simp [Value.category]) ⟨Nat.zero_le _, Nat.zero_le _⟩ ?_
        refine sp_X1_panesOf (hC.2.2.2 j hj).2 ?_
        refine mh_ireturn dX6_ofHouse_85 rfl rfl ?_
        exact mh_cl (ht j hj rfl) (by grind [mhOhR])
      · refine ⟨73, 86, rfl, rfl, ?_⟩
        replace c13 : _ = (5 : Int32) := Int32.toInt_inj.mp c13
        refine mh_aload_3 dX6_ofHouse_86 (q := 87) rfl ?_
        refine mh_iconst_1 dX6_ofHouse_87 (q := 88) rfl ?_
        refine mh_callV1 ca_X6_ofHouse_88 (shX1_0 (hC.2.2.2 j hj).2.1) (q := 91) rfl (by simp [Value.category]) ⟨Nat.zero_le _, Nat.zero_le _⟩ ?_
        refine sp_X1_panesOf (hC.2.2.2 j hj).2 ?_
        refine mh_ireturn dX6_ofHouse_91 rfl rfl ?_
        exact mh_cl (ht j hj rfl) (by grind [mhOhR])
      · refine ⟨79, 92, rfl, rfl, ?_⟩
        replace c13 : _ = (6 : Int32) := Int32.toInt_inj.mp c13
        refine mh_aload_3 dX6_ofHouse_92 (q := 93) rfl ?_
        refine mh_iconst_2 dX6_ofHouse_93 (q := 94) rfl ?_
        refine mh_callV1 ca_X6_ofHouse_94 (shX1_0 (hC.2.2.2 j hj).2.1) (q := 97) rfl (by simp [Value.category]) ⟨Nat.zero_le _, Nat.zero_le _⟩ ?_
        refine sp_X1_panesOf (hC.2.2.2 j hj).2 ?_
        refine mh_ireturn dX6_ofHouse_97 rfl rfl ?_
        exact mh_cl (ht j hj rfl) (by grind [mhOhR])
      · refine ⟨85, 98, rfl, rfl, ?_⟩
        replace c13 : _ = (7 : Int32) := Int32.toInt_inj.mp c13
        refine mh_aload_3 dX6_ofHouse_98 (q := 99) rfl ?_
        refine mh_callV0 ca_X6_ofHouse_99 (shX1_0 (hC.2.2.2 j hj).2.1) (q := 102) rfl (by simp [Value.category]) ⟨Nat.zero_le _, Nat.zero_le _⟩ ?_
        refine sp_X1_smears (hC.2.2.2 j hj).2 ?_
        refine mh_ireturn dX6_ofHouse_102 rfl rfl ?_
        exact mh_cl (ht j hj rfl) (by grind [mhOhR])
set_option maxHeartbeats 4000000 in
set_option maxRecDepth 100000 in
theorem sp_X6_ofSide {l : Launch} {K : mhX} {Φ : mhQ} {S : List mhS} {F : mhF} {I : mhI} {J : mhJ} {P : mhP} {nh : Nat} {wd hg aH : Nat → Nat} (hC : mhHC S F I P nh wd hg aH) {x y what : Int32} (hn : ¬ vHS nh wd hg x y → Φ (some (.int (-1))) S F I J P) (ht : ∀ j r, j < nh → r < gSides (wd j) (hg j) → x = nI j → y = nI r → Φ (some (.int (mhOsR (wd j) (hg j) r (I (aH j + 1) (nI r)) (I (aH j + 2) (nI r)) what))) S F I J P) : mhOk l K mX6_ofSide [.ref 0, .int x, .int y, .int what] S F I J P Φ := by
  refine mhOk.of (by decide) (by decide) rfl (Nat.le_of_ble_eq_true rfl) ?_
  refine mh_aload_0 dX6_ofSide_0 (q := 1) rfl ?_
  refine mh_iload_1 dX6_ofSide_1 (q := 2) rfl ?_
  refine mh_callV1 ca_X6_ofSide_2 (shX6_0 hC.1) (q := 5) rfl (by simp [Value.category]) ⟨Nat.zero_le _, Nat.zero_le _⟩ ?_
  refine sp_X6_houseAt hC (fun hk => ?_) (fun j hj ej => ?_)
  · skip
    refine mh_astoreN_4 dX6_ofSide_5 (q := 7) rfl ?_
    refine mh_aloadN_4 dX6_ofSide_7 (q := 9) rfl ?_
    refine mh_ifnullN dX6_ofSide_9 (tgt := 21) rfl ?_
    refine mh_iconst_m1 dX6_ofSide_21 (q := 22) rfl ?_
    refine mh_ireturn dX6_ofSide_22 rfl rfl ?_
    exact hn (fun ⟨i, hi, e, e1⟩ => by first | exact hk ⟨i, hi, e⟩ | (have e4 : j = i := (nI_eq (by have := hC.2.1; omega) (by have := hC.2.1; omega)).mp e; subst e4; exact hk e1))
  · skip
    subst ej
    refine mh_astore_4 dX6_ofSide_5 (q := 7) rfl ?_
    refine mh_aload_4 dX6_ofSide_7 (q := 9) rfl ?_
    refine mh_ifnullR dX6_ofSide_9 (q := 12) rfl ?_
    refine mh_aload_4 dX6_ofSide_12 (q := 14) rfl ?_
    refine mh_iload_2 dX6_ofSide_14 (q := 15) rfl ?_
    refine mh_callV1 ca_X6_ofSide_15 (shX1_0 (hC.2.2.2 j hj).2.1) (q := 18) rfl (by simp [Value.category]) ⟨Nat.zero_le _, Nat.zero_le _⟩ ?_
    refine sp_X1_hasSide (hC.2.2.2 j hj).2 (fun r hr er => ?_) (fun hk => ?_)
    · skip
      subst er
      refine mh_if_ne dX6_ofSide_18 (tgt := 23) (q := 21) rfl rfl (fun _ => ?_) (fun hh => False.elim (by revert hh; decide))
      refine mh_iload_3 dX6_ofSide_23 (q := 24) rfl ?_
      refine mh_tsw dX6_ofSide_24 (tgt := 100) rfl (fun c24 => ?_) (fun i24 j24 c24 => ?_)
      · skip
        replace c24 : _ < (0 : Int32) ∨ (4 : Int32) < _ := c24.imp Int32.lt_iff_toInt_lt.mpr Int32.lt_iff_toInt_lt.mpr
        refine mh_bipush (v := (-2)) dX6_ofSide_100 (q := 102) rfl (by decide) ?_
        refine mh_ireturn dX6_ofSide_102 rfl rfl ?_
        exact mh_cl (ht j r hj hr rfl rfl) (by grind [mhOsR])
      · rcases (show i24 = 0 ∨ i24 = 1 ∨ i24 = 2 ∨ i24 = 3 ∨ i24 = 4 by omega) with rfl | rfl | rfl | rfl | rfl
        · refine ⟨36, 60, rfl, rfl, ?_⟩
          replace c24 : _ = (0 : Int32) := Int32.toInt_inj.mp c24
          refine mh_aload_4 dX6_ofSide_60 (q := 62) rfl ?_
          refine mh_getR fl_X6_118 dX6_ofSide_62 (q := 65) rfl (shX1_0 (hC.2.2.2 j hj).2.1) rfl ?_
          refine mh_iload_2 dX6_ofSide_65 (q := 66) rfl ?_
          refine mh_iald dX6_ofSide_66 (q := 67) rfl (shX1_1 (hC.2.2.2 j hj).2.1) (vp_in_nI (by have := gBd (hC.2.2.2 j hj).2.2.1; omega) (by decide)) ?_
          refine mh_ireturn dX6_ofSide_67 rfl rfl ?_
          exact mh_cl (ht j r hj hr rfl rfl) (by grind [mhOsR])
        · refine ⟨44, 68, rfl, rfl, ?_⟩
          replace c24 : _ = (1 : Int32) := Int32.toInt_inj.mp c24
          refine mh_aload_4 dX6_ofSide_68 (q := 70) rfl ?_
          refine mh_getR fl_X6_144 dX6_ofSide_70 (q := 73) rfl (shX1_0 (hC.2.2.2 j hj).2.1) rfl ?_
          refine mh_iload_2 dX6_ofSide_73 (q := 74) rfl ?_
          refine mh_iald dX6_ofSide_74 (q := 75) rfl (shX1_3 (hC.2.2.2 j hj).2.1) (vp_in_nI (by have := gBd (hC.2.2.2 j hj).2.2.1; omega) (by decide)) ?_
          rw [show I (aH j + 3) (nI r) = mhTab (wd j) (hg j) 0 (nI r) from (hC.2.2.2 j hj).2.2.2.2.2.2.2.1 0 (by decide) _]
          refine mh_ireturn dX6_ofSide_75 rfl rfl ?_
          exact mh_cl (ht j r hj hr rfl rfl) (by grind [mhOsR])
        · refine ⟨52, 76, rfl, rfl, ?_⟩
          replace c24 : _ = (2 : Int32) := Int32.toInt_inj.mp c24
          refine mh_aload_4 dX6_ofSide_76 (q := 78) rfl ?_
          refine mh_getR fl_X6_147 dX6_ofSide_78 (q := 81) rfl (shX1_0 (hC.2.2.2 j hj).2.1) rfl ?_
          refine mh_iload_2 dX6_ofSide_81 (q := 82) rfl ?_
          refine mh_iald dX6_ofSide_82 (q := 83) rfl (shX1_4 (hC.2.2.2 j hj).2.1) (vp_in_nI (by have := gBd (hC.2.2.2 j hj).2.2.1; omega) (by decide)) ?_
          rw [show I (aH j + 4) (nI r) = mhTab (wd j) (hg j) 1 (nI r) from (hC.2.2.2 j hj).2.2.2.2.2.2.2.1 1 (by decide) _]
          refine mh_ireturn dX6_ofSide_83 rfl rfl ?_
          exact mh_cl (ht j r hj hr rfl rfl) (by grind [mhOsR])
        · refine ⟨60, 84, rfl, rfl, ?_⟩
          replace c24 : _ = (3 : Int32) := Int32.toInt_inj.mp c24
          refine mh_aload_4 dX6_ofSide_84 (q := 86) rfl ?_
          refine mh_getR fl_X6_150 dX6_ofSide_86 (q := 89) rfl (shX1_0 (hC.2.2.2 j hj).2.1) rfl ?_
          refine mh_iload_2 dX6_ofSide_89 (q := 90) rfl ?_
          refine mh_iald dX6_ofSide_90 (q := 91) rfl (shX1_5 (hC.2.2.2 j hj).2.1) (vp_in_nI (by have := gBd (hC.2.2.2 j hj).2.2.1; omega) (by decide)) ?_
          rw [show I (aH j + 5) (nI r) = mhTab (wd j) (hg j) 2 (nI r) from (hC.2.2.2 j hj).2.2.2.2.2.2.2.1 2 (by decide) _]
          refine mh_ireturn dX6_ofSide_91 rfl rfl ?_
          exact mh_cl (ht j r hj hr rfl rfl) (by grind [mhOsR])
        · refine ⟨68, 92, rfl, rfl, ?_⟩
          replace c24 : _ = (4 : Int32) := Int32.toInt_inj.mp c24
          refine mh_aload_4 dX6_ofSide_92 (q := 94) rfl ?_
          refine mh_getR fl_X6_153 dX6_ofSide_94 (q := 97) rfl (shX1_0 (hC.2.2.2 j hj).2.1) rfl ?_
          refine mh_iload_2 dX6_ofSide_97 (q := 98) rfl ?_
          refine mh_iald dX6_ofSide_98 (q := 99) rfl (shX1_2 (hC.2.2.2 j hj).2.1) (vp_in_nI (by have := gBd (hC.2.2.2 j hj).2.2.1; omega) (by decide)) ?_
          refine mh_ireturn dX6_ofSide_99 rfl rfl ?_
          exact mh_cl (ht j r hj hr rfl rfl) (by grind [mhOsR])
    · skip
      refine mh_if_ne dX6_ofSide_18 (tgt := 23) (q := 21) rfl rfl (fun hh => False.elim (by revert hh; decide)) (fun _ => ?_)
      refine mh_iconst_m1 dX6_ofSide_21 (q := 22) rfl ?_
      refine mh_ireturn dX6_ofSide_22 rfl rfl ?_
      exact hn (fun ⟨i, hi, e, e1⟩ => by first | exact hk ⟨i, hi, e⟩ | (have e4 : j = i := (nI_eq (by have := hC.2.1; omega) (by have := hC.2.1; omega)).mp e; subst e4; exact hk e1))
set_option maxHeartbeats 4000000 in
set_option maxRecDepth 100000 in
theorem sp_X6_side {l : Launch} {K : mhX} {Φ : mhQ} {S : List mhS} {F : mhF} {I : mhI} {J : mhJ} {P : mhP} {nh : Nat} {wd hg aH : Nat → Nat} (hC : mhHC S F I P nh wd hg aH) {x y way : Int32} (hn : ¬ vHR nh wd hg x y → Φ (some (.int (-1))) S F I J P) (ht : ∀ j r, j < nh → r < gRooms (wd j) (hg j) → x = nI j → y = nI r → Φ (some (.int (mhSiR (wd j) (hg j) r way))) S F I J P) : mhOk l K mX6_side [.ref 0, .int x, .int y, .int way] S F I J P Φ := by
  refine mhOk.of (by decide) (by decide) rfl (Nat.le_of_ble_eq_true rfl) ?_
  refine mh_aload_0 dX6_side_0 (q := 1) rfl ?_
  refine mh_iload_1 dX6_side_1 (q := 2) rfl ?_
  refine mh_callV1 ca_X6_side_2 (shX6_0 hC.1) (q := 5) rfl (by simp [Value.category]) ⟨Nat.zero_le _, Nat.zero_le _⟩ ?_
  refine sp_X6_houseAt hC (fun hk => ?_) (fun j hj ej => ?_)
  · skip
    refine mh_astoreN_4 dX6_side_5 (q := 7) rfl ?_
    refine mh_aloadN_4 dX6_side_7 (q := 9) rfl ?_
    refine mh_ifnullN dX6_side_9 (tgt := 21) rfl ?_
    refine mh_iconst_m1 dX6_side_21 (q := 22) rfl ?_
    refine mh_ireturn dX6_side_22 rfl rfl ?_
    exact hn (fun ⟨i, hi, e, e1⟩ => by first | exact hk ⟨i, hi, e⟩ | (have e4 : j = i := (nI_eq (by have := hC.2.1; omega) (by have := hC.2.1; omega)).mp e; subst e4; exact hk e1))
  · skip
    subst ej
    refine mh_astore_4 dX6_side_5 (q := 7) rfl ?_
    refine mh_aload_4 dX6_side_7 (q := 9) rfl ?_
    refine mh_ifnullR dX6_side_9 (q := 12) rfl ?_
    refine mh_aload_4 dX6_side_12 (q := 14) rfl ?_
    refine mh_iload_2 dX6_side_14 (q := 15) rfl ?_
    refine mh_callV1 ca_X6_side_15 (shX1_0 (hC.2.2.2 j hj).2.1) (q := 18) rfl (by simp [Value.category]) ⟨Nat.zero_le _, Nat.zero_le _⟩ ?_
    refine sp_X1_hasRoom (hC.2.2.2 j hj).2 (fun r hr er => ?_) (fun hk => ?_)
    · skip
      subst er
      refine mh_if_ne dX6_side_18 (tgt := 23) (q := 21) rfl rfl (fun _ => ?_) (fun hh => False.elim (by revert hh; decide))
      refine mh_iload_3 dX6_side_23 (q := 24) rfl ?_
      refine mh_callS1 ca_X6_side_24 (q := 27) rfl (by simp [Value.category]) ⟨Nat.zero_le _, Nat.zero_le _⟩ ?_
      refine sp_X6_isWay (fun cw => ?_) (fun cw => ?_)
      · skip
        refine mh_if_eq dX6_side_27 (tgt := 40) (q := 30) rfl rfl (fun hh => False.elim (by revert hh; decide)) (fun _ => ?_)
        refine mh_aload_4 dX6_side_30 (q := 32) rfl ?_
        refine mh_iload_2 dX6_side_32 (q := 33) rfl ?_
        refine mh_iload_3 dX6_side_33 (q := 34) rfl ?_
        refine mh_callV2 ca_X6_side_34 (shX1_0 (hC.2.2.2 j hj).2.1) (q := 37) rfl (by simp [Value.category]) ⟨Nat.zero_le _, Nat.zero_le _⟩ ?_
        obtain ⟨d, hd, rfl⟩ := mh_way cw
        refine sp_X1_sideOf (hC.2.2.2 j hj).2 hr hd ?_
        rw [← mhSiR_at hd]
        refine mh_goto dX6_side_37 (tgt := 42) rfl ?_
        refine mh_ireturn dX6_side_42 rfl rfl ?_
        first | exact ht j r hj hr rfl rfl | (rw [← mhSiR_no (w := wd j) (h := hg j) (r := r) cw]; exact ht j r hj hr rfl rfl)
      · skip
        refine mh_if_eq dX6_side_27 (tgt := 40) (q := 30) rfl rfl (fun _ => ?_) (fun hh => False.elim (by revert hh; decide))
        refine mh_bipush (v := (-2)) dX6_side_40 (q := 42) rfl (by decide) ?_
        refine mh_ireturn dX6_side_42 rfl rfl ?_
        first | exact ht j r hj hr rfl rfl | (rw [← mhSiR_no (w := wd j) (h := hg j) (r := r) cw]; exact ht j r hj hr rfl rfl)
    · skip
      refine mh_if_ne dX6_side_18 (tgt := 23) (q := 21) rfl rfl (fun hh => False.elim (by revert hh; decide)) (fun _ => ?_)
      refine mh_iconst_m1 dX6_side_21 (q := 22) rfl ?_
      refine mh_ireturn dX6_side_22 rfl rfl ?_
      exact hn (fun ⟨i, hi, e, e1⟩ => by first | exact hk ⟨i, hi, e⟩ | (have e4 : j = i := (nI_eq (by have := hC.2.1; omega) (by have := hC.2.1; omega)).mp e; subst e4; exact hk e1))
set_option maxHeartbeats 4000000 in
set_option maxRecDepth 100000 in
theorem sp_X6_pane {l : Launch} {K : mhX} {Φ : mhQ} {S : List mhS} {F : mhF} {I : mhI} {J : mhJ} {P : mhP} {nh : Nat} {wd hg aH : Nat → Nat} (hC : mhHC S F I P nh wd hg aH) {x y v : Int32} (hn : ¬ vHS nh wd hg x y → Φ (some (.int (-1))) S F I J P) (hb : ∀ j r, j < nh → r < gSides (wd j) (hg j) → x = nI j → y = nI r → ¬ mhSo v → Φ (some (.int (-2))) S F I J P) (ht : ∀ j r, j < nh → r < gSides (wd j) (hg j) → x = nI j → y = nI r → mhSo v → Φ (some (.int (I (aH j + 1) (nI r)))) S F (if I (aH j + 1) (nI r) = v then mhUI I (aH j + 1) (nI r) v else mhUI (mhUI I (aH j + 1) (nI r) v) (aH j + 2) (nI r) 0) J P) : mhOk l K mX6_pane [.ref 0, .int x, .int y, .int v] S F I J P Φ := by
  refine mhOk.of (by decide) (by decide) rfl (Nat.le_of_ble_eq_true rfl) ?_
  refine mh_aload_0 dX6_pane_0 (q := 1) rfl ?_
  refine mh_iload_1 dX6_pane_1 (q := 2) rfl ?_
  refine mh_callV1 ca_X6_pane_2 (shX6_0 hC.1) (q := 5) rfl (by simp [Value.category]) ⟨Nat.zero_le _, Nat.zero_le _⟩ ?_
  refine sp_X6_houseAt hC (fun hk => ?_) (fun j hj ej => ?_)
  · skip
    refine mh_astoreN_4 dX6_pane_5 (q := 7) rfl ?_
    refine mh_aloadN_4 dX6_pane_7 (q := 9) rfl ?_
    refine mh_ifnullN dX6_pane_9 (tgt := 21) rfl ?_
    refine mh_iconst_m1 dX6_pane_21 (q := 22) rfl ?_
    refine mh_ireturn dX6_pane_22 rfl rfl ?_
    exact hn (fun ⟨i, hi, e, e1⟩ => by first | exact hk ⟨i, hi, e⟩ | (have e4 : j = i := (nI_eq (by have := hC.2.1; omega) (by have := hC.2.1; omega)).mp e; subst e4; exact hk e1))
  · skip
    subst ej
    refine mh_astore_4 dX6_pane_5 (q := 7) rfl ?_
    refine mh_aload_4 dX6_pane_7 (q := 9) rfl ?_
    refine mh_ifnullR dX6_pane_9 (q := 12) rfl ?_
    refine mh_aload_4 dX6_pane_12 (q := 14) rfl ?_
    refine mh_iload_2 dX6_pane_14 (q := 15) rfl ?_
    refine mh_callV1 ca_X6_pane_15 (shX1_0 (hC.2.2.2 j hj).2.1) (q := 18) rfl (by simp [Value.category]) ⟨Nat.zero_le _, Nat.zero_le _⟩ ?_
    refine sp_X1_hasSide (hC.2.2.2 j hj).2 (fun r hr er => ?_) (fun hk => ?_)
    · skip
      subst er
      refine mh_if_ne dX6_pane_18 (tgt := 23) (q := 21) rfl rfl (fun _ => ?_) (fun hh => False.elim (by revert hh; decide))
      refine mh_iload_3 dX6_pane_23 (q := 24) rfl ?_
      refine mh_iconst_0 dX6_pane_24 (q := 25) rfl ?_
      refine mh_iconst_2 dX6_pane_25 (q := 26) rfl ?_
      refine mh_callS3 ca_X6_pane_26 (q := 29) rfl (by simp [Value.category]) ⟨Nat.zero_le _, Nat.zero_le _⟩ ?_
      refine sp_X6_within (fun cw => ?_) (fun cw => ?_)
      · skip
        refine mh_if_eq dX6_pane_29 (tgt := 42) (q := 32) rfl rfl (fun hh => False.elim (by revert hh; decide)) (fun _ => ?_)
        refine mh_aload_4 dX6_pane_32 (q := 34) rfl ?_
        refine mh_iload_2 dX6_pane_34 (q := 35) rfl ?_
        refine mh_iload_3 dX6_pane_35 (q := 36) rfl ?_
        refine mh_callV2 ca_X6_pane_36 (shX1_0 (hC.2.2.2 j hj).2.1) (q := 39) rfl (by simp [Value.category]) ⟨Nat.zero_le _, Nat.zero_le _⟩ ?_
        refine sp_X1_become (hC.2.2.2 j hj).2 hr ?_
        refine mh_goto dX6_pane_39 (tgt := 44) rfl ?_
        refine mh_ireturn dX6_pane_44 rfl rfl ?_
        first | exact ht j r hj hr rfl rfl cw | exact hb j r hj hr rfl rfl cw
      · skip
        refine mh_if_eq dX6_pane_29 (tgt := 42) (q := 32) rfl rfl (fun _ => ?_) (fun hh => False.elim (by revert hh; decide))
        refine mh_bipush (v := (-2)) dX6_pane_42 (q := 44) rfl (by decide) ?_
        refine mh_ireturn dX6_pane_44 rfl rfl ?_
        first | exact ht j r hj hr rfl rfl cw | exact hb j r hj hr rfl rfl cw
    · skip
      refine mh_if_ne dX6_pane_18 (tgt := 23) (q := 21) rfl rfl (fun hh => False.elim (by revert hh; decide)) (fun _ => ?_)
      refine mh_iconst_m1 dX6_pane_21 (q := 22) rfl ?_
      refine mh_ireturn dX6_pane_22 rfl rfl ?_
      exact hn (fun ⟨i, hi, e, e1⟩ => by first | exact hk ⟨i, hi, e⟩ | (have e4 : j = i := (nI_eq (by have := hC.2.1; omega) (by have := hC.2.1; omega)).mp e; subst e4; exact hk e1))
set_option maxHeartbeats 4000000 in
set_option maxRecDepth 100000 in
theorem lp_X7_ofHouse {l : Launch} {K : mhX} {kc ks : Nat} {Φ : mhQ} {S : List mhS} {F : mhF} {I : mhI} {J : mhJ} {P : mhP} (h7 : mhKX7 S) {j w h : Nat} (hm : mhHm I j w h) {what : Int32} (hΦ : Φ (some (.int (mhSum (fun k => I 28 (nI (50 * j + k))) (gSides w h)))) S F I J P) : ∀ (m i : Nat), i + m = gSides w h → mhV l K mX7_ofHouse kc ks Φ 96 [some (.ref 21), some (.int (nI j)), some (.int what), some (.int (mhSum (fun k => I 28 (nI (50 * j + k))) i)), some (.int (nI i))] [] S F I J P := by
  have hb := gBd hm.2.1
  intro m
  induction m with
  | zero =>
    intro i hi
    obtain rfl : i = gSides w h := by omega
    refine mh_iload_4 dX7_ofHouse_96 (q := 98) rfl ?_
    refine mh_aload_0 dX7_ofHouse_98 (q := 99) rfl ?_
    refine mh_iload_1 dX7_ofHouse_99 (q := 100) rfl ?_
    refine mh_callV1 ca_X7_ofHouse_100 (shX7_0 h7) (q := 103) rfl (by simp [Value.category]) ⟨Nat.zero_le _, Nat.zero_le _⟩ ?_
    refine sp_X7_sides h7 hm ?_
    refine mh_icmp_ge dX7_ofHouse_103 (tgt := 127) (q := 106) rfl rfl (fun _ => ?_) (fun hh => absurd (nI_le (Nat.le_refl _) (by omega)) hh)
    refine mh_iload_3 dX7_ofHouse_127 (q := 128) rfl ?_
    refine mh_ireturn dX7_ofHouse_128 rfl rfl ?_
    exact hΦ
  | succ m ih =>
    intro i hi
    refine mh_iload_4 dX7_ofHouse_96 (q := 98) rfl ?_
    refine mh_aload_0 dX7_ofHouse_98 (q := 99) rfl ?_
    refine mh_iload_1 dX7_ofHouse_99 (q := 100) rfl ?_
    refine mh_callV1 ca_X7_ofHouse_100 (shX7_0 h7) (q := 103) rfl (by simp [Value.category]) ⟨Nat.zero_le _, Nat.zero_le _⟩ ?_
    refine sp_X7_sides h7 hm ?_
    refine mh_icmp_ge dX7_ofHouse_103 (tgt := 127) (q := 106) rfl rfl (fun hh => absurd hh (nI_ge (by omega) (by omega))) (fun _ => ?_)
    refine mh_iload_3 dX7_ofHouse_106 (q := 107) rfl ?_
    refine mh_aload_0 dX7_ofHouse_107 (q := 108) rfl ?_
    refine mh_getR fl_X7_28 dX7_ofHouse_108 (q := 111) rfl (shX7_0 h7) rfl ?_
    refine mh_bipush (v := 50) dX7_ofHouse_111 (q := 113) rfl (by decide) ?_
    refine mh_iload_1 dX7_ofHouse_113 (q := 114) rfl ?_
    refine mh_imul dX7_ofHouse_114 (q := 115) rfl ?_
    refine mh_iload_4 dX7_ofHouse_115 (q := 117) rfl ?_
    refine mh_iadd dX7_ofHouse_117 (q := 118) rfl ?_
    refine mh_iald dX7_ofHouse_118 (q := 119) rfl (shX7_7 h7) (by rw [mh_e50]; exact vp_in_nI (by have := hm.1; omega) (by decide)) ?_
    rw [mh_e50]
    refine mh_iadd dX7_ofHouse_119 (q := 120) rfl ?_
    refine mh_istore_3 dX7_ofHouse_120 (q := 121) rfl ?_
    refine mh_iinc_4 (v := 1) dX7_ofHouse_121 (q := 124) rfl (by decide) ?_
    refine mh_goto dX7_ofHouse_124 (tgt := 96) rfl ?_
    rw [nI_1]
    exact ih (i + 1) (by omega)
set_option maxHeartbeats 4000000 in
set_option maxRecDepth 100000 in
theorem sp_X7_ofHouse {l : Launch} {K : mhX} {Φ : mhQ} {S : List mhS} {F : mhF} {I : mhI} {J : mhJ} {P : mhP} {nh : Nat} {wd hg : Nat → Nat} (hM : mhHR S F I nh wd hg) {x what : Int32} (hn : ¬ vHs nh x → Φ (some (.int (-1))) S F I J P) (ht : ∀ j, j < nh → x = nI j → Φ (some (.int (mhOhR (wd j) (hg j) (fun v => mhCnt (fun k => I 27 (nI (50 * j + k))) v (gSides (wd j) (hg j))) (mhSum (fun k => I 28 (nI (50 * j + k))) (gSides (wd j) (hg j))) what))) S F I J P) : mhOk l K mX7_ofHouse [.ref 21, .int x, .int what] S F I J P Φ := by
  refine mhOk.of (by decide) (by decide) rfl (Nat.le_of_ble_eq_true rfl) ?_
  refine mh_aload_0 dX7_ofHouse_0 (q := 1) rfl ?_
  refine mh_iload_1 dX7_ofHouse_1 (q := 2) rfl ?_
  refine mh_callV1 ca_X7_ofHouse_2 (shX7_0 hM.1) (q := 5) rfl (by simp [Value.category]) ⟨Nat.zero_le _, Nat.zero_le _⟩ ?_
  refine sp_X7_isHouse hM (fun j hj ej => ?_) (fun hk => ?_)
  · skip
    subst ej
    refine mh_if_ne dX7_ofHouse_5 (tgt := 10) (q := 8) rfl rfl (fun _ => ?_) (fun hh => False.elim (by revert hh; decide))
    refine mh_iload_2 dX7_ofHouse_10 (q := 11) rfl ?_
    refine mh_tsw dX7_ofHouse_11 (tgt := 129) rfl (fun c11 => ?_) (fun i11 j11 c11 => ?_)
    · skip
      replace c11 : _ < (0 : Int32) ∨ (7 : Int32) < _ := c11.imp Int32.lt_iff_toInt_lt.mpr Int32.lt_iff_toInt_lt.mpr
      refine mh_bipush (v := (-2)) dX7_ofHouse_129 (q := 131) rfl (by decide) ?_
      refine mh_ireturn dX7_ofHouse_131 rfl rfl ?_
      exact mh_cl (ht j hj rfl) (by first | (subst c11; rfl) | grind [mhOhR])
    · rcases (show i11 = 0 ∨ i11 = 1 ∨ i11 = 2 ∨ i11 = 3 ∨ i11 = 4 ∨ i11 = 5 ∨ i11 = 6 ∨ i11 = 7 by omega) with rfl | rfl | rfl | rfl | rfl | rfl | rfl | rfl
      · refine ⟨45, 56, rfl, rfl, ?_⟩
        replace c11 : _ = (0 : Int32) := Int32.toInt_inj.mp c11
        refine mh_aload_0 dX7_ofHouse_56 (q := 57) rfl ?_
        refine mh_getR fl_X7_19 dX7_ofHouse_57 (q := 60) rfl (shX7_0 hM.1) rfl ?_
        refine mh_iload_1 dX7_ofHouse_60 (q := 61) rfl ?_
        refine mh_iald dX7_ofHouse_61 (q := 62) rfl (shX7_4 hM.1) (vp_in_nI (by have := hM.2.1; omega) (by decide)) ?_
        rw [(hM.2.2.2 j hj).2.2.1]
        refine mh_ireturn dX7_ofHouse_62 rfl rfl ?_
        exact mh_cl (ht j hj rfl) (by first | (subst c11; rfl) | grind [mhOhR])
      · refine ⟨52, 63, rfl, rfl, ?_⟩
        replace c11 : _ = (1 : Int32) := Int32.toInt_inj.mp c11
        refine mh_aload_0 dX7_ofHouse_63 (q := 64) rfl ?_
        refine mh_getR fl_X7_22 dX7_ofHouse_64 (q := 67) rfl (shX7_0 hM.1) rfl ?_
        refine mh_iload_1 dX7_ofHouse_67 (q := 68) rfl ?_
        refine mh_iald dX7_ofHouse_68 (q := 69) rfl (shX7_5 hM.1) (vp_in_nI (by have := hM.2.1; omega) (by decide)) ?_
        rw [(hM.2.2.2 j hj).2.2.2]
        refine mh_ireturn dX7_ofHouse_69 rfl rfl ?_
        exact mh_cl (ht j hj rfl) (by first | (subst c11; rfl) | grind [mhOhR])
      · refine ⟨59, 70, rfl, rfl, ?_⟩
        replace c11 : _ = (2 : Int32) := Int32.toInt_inj.mp c11
        refine mh_aload_0 dX7_ofHouse_70 (q := 71) rfl ?_
        refine mh_iload_1 dX7_ofHouse_71 (q := 72) rfl ?_
        refine mh_callV1 ca_X7_ofHouse_72 (shX7_0 hM.1) (q := 75) rfl (by simp [Value.category]) ⟨Nat.zero_le _, Nat.zero_le _⟩ ?_
        refine sp_X7_rooms hM.1 (hM.2.2.2 j hj) ?_
        refine mh_ireturn dX7_ofHouse_75 rfl rfl ?_
        exact mh_cl (ht j hj rfl) (by first | (subst c11; rfl) | grind [mhOhR])
      · refine ⟨65, 76, rfl, rfl, ?_⟩
        replace c11 : _ = (3 : Int32) := Int32.toInt_inj.mp c11
        refine mh_aload_0 dX7_ofHouse_76 (q := 77) rfl ?_
        refine mh_iload_1 dX7_ofHouse_77 (q := 78) rfl ?_
        refine mh_callV1 ca_X7_ofHouse_78 (shX7_0 hM.1) (q := 81) rfl (by simp [Value.category]) ⟨Nat.zero_le _, Nat.zero_le _⟩ ?_
        refine sp_X7_sides hM.1 (hM.2.2.2 j hj) ?_
        refine mh_ireturn dX7_ofHouse_81 rfl rfl ?_
        exact mh_cl (ht j hj rfl) (by first | (subst c11; rfl) | grind [mhOhR])
      · refine ⟨71, 82, rfl, rfl, ?_⟩
        replace c11 : _ = (4 : Int32) := Int32.toInt_inj.mp c11
        refine mh_aload_0 dX7_ofHouse_82 (q := 83) rfl ?_
        refine mh_iload_1 dX7_ofHouse_83 (q := 84) rfl ?_
        refine mh_iload_2 dX7_ofHouse_84 (q := 85) rfl ?_
        refine mh_iconst_4 dX7_ofHouse_85 (q := 86) rfl ?_
        refine mh_isub dX7_ofHouse_86 (q := 87) rfl ?_
        refine mh_callV2 ca_X7_ofHouse_87 (shX7_0 hM.1) (q := 90) rfl (by simp [Value.category]) ⟨Nat.zero_le _, Nat.zero_le _⟩ ?_
        refine sp_X7_countOf hM.1 (hM.2.2.2 j hj) ?_
        refine mh_ireturn dX7_ofHouse_90 rfl rfl ?_
        exact mh_cl (ht j hj rfl) (by first | (subst c11; rfl) | grind [mhOhR])
      · refine ⟨71, 82, rfl, rfl, ?_⟩
        replace c11 : _ = (5 : Int32) := Int32.toInt_inj.mp c11
        refine mh_aload_0 dX7_ofHouse_82 (q := 83) rfl ?_
        refine mh_iload_1 dX7_ofHouse_83 (q := 84) rfl ?_
        refine mh_iload_2 dX7_ofHouse_84 (q := 85) rfl ?_
        refine mh_iconst_4 dX7_ofHouse_85 (q := 86) rfl ?_
        refine mh_isub dX7_ofHouse_86 (q := 87) rfl ?_
        refine mh_callV2 ca_X7_ofHouse_87 (shX7_0 hM.1) (q := 90) rfl (by simp [Value.category]) ⟨Nat.zero_le _, Nat.zero_le _⟩ ?_
        refine sp_X7_countOf hM.1 (hM.2.2.2 j hj) ?_
        refine mh_ireturn dX7_ofHouse_90 rfl rfl ?_
        exact mh_cl (ht j hj rfl) (by first | (subst c11; rfl) | grind [mhOhR])
      · refine ⟨71, 82, rfl, rfl, ?_⟩
        replace c11 : _ = (6 : Int32) := Int32.toInt_inj.mp c11
        refine mh_aload_0 dX7_ofHouse_82 (q := 83) rfl ?_
        refine mh_iload_1 dX7_ofHouse_83 (q := 84) rfl ?_
        refine mh_iload_2 dX7_ofHouse_84 (q := 85) rfl ?_
        refine mh_iconst_4 dX7_ofHouse_85 (q := 86) rfl ?_
        refine mh_isub dX7_ofHouse_86 (q := 87) rfl ?_
        refine mh_callV2 ca_X7_ofHouse_87 (shX7_0 hM.1) (q := 90) rfl (by simp [Value.category]) ⟨Nat.zero_le _, Nat.zero_le _⟩ ?_
        refine sp_X7_countOf hM.1 (hM.2.2.2 j hj) ?_
        refine mh_ireturn dX7_ofHouse_90 rfl rfl ?_
        exact mh_cl (ht j hj rfl) (by first | (subst c11; rfl) | grind [mhOhR])
      · refine ⟨80, 91, rfl, rfl, ?_⟩
        replace c11 : _ = (7 : Int32) := Int32.toInt_inj.mp c11
        refine mh_iconst_0 dX7_ofHouse_91 (q := 92) rfl ?_
        refine mh_istore_3 dX7_ofHouse_92 (q := 93) rfl ?_
        refine mh_iconst_0 dX7_ofHouse_93 (q := 94) rfl ?_
        refine mh_istore_4 dX7_ofHouse_94 (q := 96) rfl ?_
        exact lp_X7_ofHouse (kc := mX7_ofHouse.2.2.2.2.cells) (ks := mX7_ofHouse.2.2.2.2.slots) hM.1 (hM.2.2.2 j hj) (mh_cl (ht j hj rfl) (by grind [mhOhR])) _ 0 (Nat.zero_add _)
  · skip
    refine mh_if_ne dX7_ofHouse_5 (tgt := 10) (q := 8) rfl rfl (fun hh => False.elim (by revert hh; decide)) (fun _ => ?_)
    refine mh_iconst_m1 dX7_ofHouse_8 (q := 9) rfl ?_
    refine mh_ireturn dX7_ofHouse_9 rfl rfl ?_
    exact hn hk
set_option maxHeartbeats 4000000 in
set_option maxRecDepth 100000 in
theorem lp_X7_ofSide1 {l : Launch} {K : mhX} {kc ks : Nat} {Φ : mhQ} {S : List mhS} {F : mhF} {I : mhI} {J : mhJ} {P : mhP} (h7 : mhKX7 S) {j w h : Nat} (hm : mhHm I j w h) {k : Nat} (hk : k < gSides w h) {what : Int32} {r : Nat} (hr : r < gRooms w h) (hx : mhV l K mX7_ofSide kc ks Φ 71 [some (.ref 21), some (.int (nI j)), some (.int (nI k)), some (.int what), some (.int (mhSk w h k (3 * (r + 1)) (-9, -9, -9)).2.1), some (.int (mhSk w h k (3 * (r + 1)) (-9, -9, -9)).2.2), some (.int (mhSk w h k (3 * (r + 1)) (-9, -9, -9)).1), some (.int (nI (r + 1))), some (.int 3)] [] S F I J P) : ∀ (m d : Nat), d + m = 3 → mhV l K mX7_ofSide kc ks Φ 84 [some (.ref 21), some (.int (nI j)), some (.int (nI k)), some (.int what), some (.int (mhSk w h k (3 * r + d) (-9, -9, -9)).2.1), some (.int (mhSk w h k (3 * r + d) (-9, -9, -9)).2.2), some (.int (mhSk w h k (3 * r + d) (-9, -9, -9)).1), some (.int (nI r)), some (.int (nI d))] [] S F I J P := by
  have hb := gBd hm.2.1
  intro m
  induction m with
  | zero =>
    intro d hd
    obtain rfl : d = 3 := by omega
    refine mh_iload_8 dX7_ofSide_84 (q := 86) rfl ?_
    refine mh_iconst_3 dX7_ofSide_86 (q := 87) rfl ?_
    refine mh_icmp_ge dX7_ofSide_87 (tgt := 146) (q := 90) rfl rfl (fun _ => ?_) (fun hh => absurd (show (3 : Int32) ≤ nI 3 by decide) hh)
    refine mh_iinc_7 (v := 1) dX7_ofSide_146 (q := 149) rfl (by decide) ?_
    refine mh_goto dX7_ofSide_149 (tgt := 71) rfl ?_
    rw [nI_1]
    exact hx
  | succ m ih =>
    intro d hd0
    have hd : d < 3 := by omega
    have h9 := ih (d + 1) (by omega)
    rw [show 3 * r + (d + 1) = (3 * r + d) + 1 by omega] at h9
    unfold mhSk at h9
    rw [show (3 * r + d) / 3 = r by omega, show (3 * r + d) % 3 = d by omega] at h9
    refine mh_iload_8 dX7_ofSide_84 (q := 86) rfl ?_
    refine mh_iconst_3 dX7_ofSide_86 (q := 87) rfl ?_
    refine mh_icmp_ge dX7_ofSide_87 (tgt := 146) (q := 90) rfl rfl (fun hh => absurd hh (show ¬ (3 : Int32) ≤ nI d from nI_ge (b := 3) (by omega) (by decide))) (fun _ => ?_)
    refine mh_aload_0 dX7_ofSide_90 (q := 91) rfl ?_
    refine mh_iload_1 dX7_ofSide_91 (q := 92) rfl ?_
    refine mh_iload_7 dX7_ofSide_92 (q := 94) rfl ?_
    refine mh_iload_8 dX7_ofSide_94 (q := 96) rfl ?_
    refine mh_callV3 ca_X7_ofSide_96 (shX7_0 h7) (q := 99) rfl (by simp [Value.category]) ⟨Nat.zero_le _, Nat.zero_le _⟩ ?_
    refine sp_X7_sideOf h7 hm hr hd ?_
    refine mh_iload_2 dX7_ofSide_99 (q := 100) rfl ?_
    have q1 := (gT1 hm.2.1 hr hd).2.1
    refine mh_icmp_ne dX7_ofSide_100 (tgt := 140) (q := 103) rfl rfl (fun c100 => ?_) (fun c100 => ?_)
    · skip
      refine mh_iinc_8 (v := 1) dX7_ofSide_140 (q := 143) rfl (by decide) ?_
      refine mh_goto dX7_ofSide_143 (tgt := 84) rfl ?_
      rw [nI_1]
      first
      | (rw [nI_eq (by omega) (by omega)] at c100
         simp only [if_neg c100] at h9
         exact h9)
      | (rw [nI_eq (by omega) (by omega)] at c100
         rw [mh_ev0 r (by omega)] at c111
         rw [mh_ev r (by omega), show (1 : Int32) = nI 1 from rfl, nI_eq (by omega) (by decide)] at c128
         first | (exfalso; omega) | (simp only [if_pos c100, c111, c128, if_true, if_false] at h9; exact h9))
    · skip
      refine mh_iload_8 dX7_ofSide_103 (q := 105) rfl ?_
      refine mh_istore_6 dX7_ofSide_105 (q := 107) rfl ?_
      refine mh_iload_7 dX7_ofSide_107 (q := 109) rfl ?_
      refine mh_iconst_2 dX7_ofSide_109 (q := 110) rfl ?_
      refine mh_irem dX7_ofSide_110 (q := 111) rfl (by decide) ?_
      refine mh_if_ne dX7_ofSide_111 (tgt := 119) (q := 114) rfl rfl (fun c111 => ?_) (fun c111 => ?_)
      · skip
        refine mh_iload_4 dX7_ofSide_119 (q := 121) rfl ?_
        refine mh_istore_4 dX7_ofSide_121 (q := 123) rfl ?_
        refine mh_iload_7 dX7_ofSide_123 (q := 125) rfl ?_
        refine mh_iconst_2 dX7_ofSide_125 (q := 126) rfl ?_
        refine mh_irem dX7_ofSide_126 (q := 127) rfl (by decide) ?_
        refine mh_iconst_1 dX7_ofSide_127 (q := 128) rfl ?_
        refine mh_icmp_ne dX7_ofSide_128 (tgt := 136) (q := 131) rfl rfl (fun c128 => ?_) (fun c128 => ?_)
        · skip
          refine mh_iload_5 dX7_ofSide_136 (q := 138) rfl ?_
          refine mh_istore_5 dX7_ofSide_138 (q := 140) rfl ?_
          refine mh_iinc_8 (v := 1) dX7_ofSide_140 (q := 143) rfl (by decide) ?_
          refine mh_goto dX7_ofSide_143 (tgt := 84) rfl ?_
          rw [nI_1]
          first
          | (rw [nI_eq (by omega) (by omega)] at c100
             simp only [if_neg c100] at h9
             exact h9)
          | (rw [nI_eq (by omega) (by omega)] at c100
             rw [mh_ev0 r (by omega)] at c111
             rw [mh_ev r (by omega), show (1 : Int32) = nI 1 from rfl, nI_eq (by omega) (by decide)] at c128
             first | (exfalso; omega) | (simp only [if_pos c100, c111, c128, if_true, if_false] at h9; exact h9))
        · skip
          refine mh_iload_7 dX7_ofSide_131 (q := 133) rfl ?_
          refine mh_goto dX7_ofSide_133 (tgt := 138) rfl ?_
          refine mh_istore_5 dX7_ofSide_138 (q := 140) rfl ?_
          refine mh_iinc_8 (v := 1) dX7_ofSide_140 (q := 143) rfl (by decide) ?_
          refine mh_goto dX7_ofSide_143 (tgt := 84) rfl ?_
          rw [nI_1]
          first
          | (rw [nI_eq (by omega) (by omega)] at c100
             simp only [if_neg c100] at h9
             exact h9)
          | (rw [nI_eq (by omega) (by omega)] at c100
             rw [mh_ev0 r (by omega)] at c111
             rw [mh_ev r (by omega), show (1 : Int32) = nI 1 from rfl, nI_eq (by omega) (by decide)] at c128
             first | (exfalso; omega) | (simp only [if_pos c100, c111, c128, if_true, if_false] at h9; exact h9))
      · skip
        refine mh_iload_7 dX7_ofSide_114 (q := 116) rfl ?_
        refine mh_goto dX7_ofSide_116 (tgt := 121) rfl ?_
        refine mh_istore_4 dX7_ofSide_121 (q := 123) rfl ?_
        refine mh_iload_7 dX7_ofSide_123 (q := 125) rfl ?_
        refine mh_iconst_2 dX7_ofSide_125 (q := 126) rfl ?_
        refine mh_irem dX7_ofSide_126 (q := 127) rfl (by decide) ?_
        refine mh_iconst_1 dX7_ofSide_127 (q := 128) rfl ?_
        refine mh_icmp_ne dX7_ofSide_128 (tgt := 136) (q := 131) rfl rfl (fun c128 => ?_) (fun c128 => ?_)
        · skip
          refine mh_iload_5 dX7_ofSide_136 (q := 138) rfl ?_
          refine mh_istore_5 dX7_ofSide_138 (q := 140) rfl ?_
          refine mh_iinc_8 (v := 1) dX7_ofSide_140 (q := 143) rfl (by decide) ?_
          refine mh_goto dX7_ofSide_143 (tgt := 84) rfl ?_
          rw [nI_1]
          first
          | (rw [nI_eq (by omega) (by omega)] at c100
             simp only [if_neg c100] at h9
             exact h9)
          | (rw [nI_eq (by omega) (by omega)] at c100
             rw [mh_ev0 r (by omega)] at c111
             rw [mh_ev r (by omega), show (1 : Int32) = nI 1 from rfl, nI_eq (by omega) (by decide)] at c128
             first | (exfalso; omega) | (simp only [if_pos c100, c111, c128, if_true, if_false] at h9; exact h9))
        · skip
          refine mh_iload_7 dX7_ofSide_131 (q := 133) rfl ?_
          refine mh_goto dX7_ofSide_133 (tgt := 138) rfl ?_
          refine mh_istore_5 dX7_ofSide_138 (q := 140) rfl ?_
          refine mh_iinc_8 (v := 1) dX7_ofSide_140 (q := 143) rfl (by decide) ?_
          refine mh_goto dX7_ofSide_143 (tgt := 84) rfl ?_
          rw [nI_1]
          first
          | (rw [nI_eq (by omega) (by omega)] at c100
             simp only [if_neg c100] at h9
             exact h9)
          | (rw [nI_eq (by omega) (by omega)] at c100
             rw [mh_ev0 r (by omega)] at c111
             rw [mh_ev r (by omega), show (1 : Int32) = nI 1 from rfl, nI_eq (by omega) (by decide)] at c128
             first | (exfalso; omega) | (simp only [if_pos c100, c111, c128, if_true, if_false] at h9; exact h9))
set_option maxHeartbeats 4000000 in
set_option maxRecDepth 100000 in
theorem lp_X7_ofSide {l : Launch} {K : mhX} {kc ks : Nat} {Φ : mhQ} {S : List mhS} {F : mhF} {I : mhI} {J : mhJ} {P : mhP} (h7 : mhKX7 S) {j w h : Nat} (hm : mhHm I j w h) {k : Nat} (hk : k < gSides w h) {what : Int32} (hx : ∀ o8, mhV l K mX7_ofSide kc ks Φ 152 [some (.ref 21), some (.int (nI j)), some (.int (nI k)), some (.int what), some (.int (mhSk w h k (3 * gRooms w h) (-9, -9, -9)).2.1), some (.int (mhSk w h k (3 * gRooms w h) (-9, -9, -9)).2.2), some (.int (mhSk w h k (3 * gRooms w h) (-9, -9, -9)).1), some (.int (nI (gRooms w h))), o8] [] S F I J P) : ∀ (m r : Nat) (o8 : Option Value), r + m = gRooms w h → mhV l K mX7_ofSide kc ks Φ 71 [some (.ref 21), some (.int (nI j)), some (.int (nI k)), some (.int what), some (.int (mhSk w h k (3 * r) (-9, -9, -9)).2.1), some (.int (mhSk w h k (3 * r) (-9, -9, -9)).2.2), some (.int (mhSk w h k (3 * r) (-9, -9, -9)).1), some (.int (nI r)), o8] [] S F I J P := by
  have hb := gBd hm.2.1
  intro m
  induction m with
  | zero =>
    intro r o8 hr
    obtain rfl : r = gRooms w h := by omega
    refine mh_iload_7 dX7_ofSide_71 (q := 73) rfl ?_
    refine mh_aload_0 dX7_ofSide_73 (q := 74) rfl ?_
    refine mh_iload_1 dX7_ofSide_74 (q := 75) rfl ?_
    refine mh_callV1 ca_X7_ofSide_75 (shX7_0 h7) (q := 78) rfl (by simp [Value.category]) ⟨Nat.zero_le _, Nat.zero_le _⟩ ?_
    refine sp_X7_rooms h7 hm ?_
    refine mh_icmp_ge dX7_ofSide_78 (tgt := 152) (q := 81) rfl rfl (fun _ => ?_) (fun hh => absurd (nI_le (Nat.le_refl _) (by omega)) hh)
    exact hx o8
  | succ m ih =>
    intro r o8 hr
    refine mh_iload_7 dX7_ofSide_71 (q := 73) rfl ?_
    refine mh_aload_0 dX7_ofSide_73 (q := 74) rfl ?_
    refine mh_iload_1 dX7_ofSide_74 (q := 75) rfl ?_
    refine mh_callV1 ca_X7_ofSide_75 (shX7_0 h7) (q := 78) rfl (by simp [Value.category]) ⟨Nat.zero_le _, Nat.zero_le _⟩ ?_
    refine sp_X7_rooms h7 hm ?_
    refine mh_icmp_ge dX7_ofSide_78 (tgt := 152) (q := 81) rfl rfl (fun hh => absurd hh (nI_ge (by omega) (by omega))) (fun _ => ?_)
    refine mh_iconst_0 dX7_ofSide_81 (q := 82) rfl ?_
    refine mh_istore_8 dX7_ofSide_82 (q := 84) rfl ?_
    exact lp_X7_ofSide1 h7 hm hk (by omega) (ih (r + 1) _ (by omega)) 3 0 rfl
set_option maxHeartbeats 4000000 in
set_option maxRecDepth 100000 in
theorem sp_X7_ofSide {l : Launch} {K : mhX} {Φ : mhQ} {S : List mhS} {F : mhF} {I : mhI} {J : mhJ} {P : mhP} {nh : Nat} {wd hg : Nat → Nat} (hM : mhHR S F I nh wd hg) {x y what : Int32} (hn : ¬ vHS nh wd hg x y → Φ (some (.int (-1))) S F I J P) (ht : ∀ j r, j < nh → r < gSides (wd j) (hg j) → x = nI j → y = nI r → Φ (some (.int (mhOsR (wd j) (hg j) r (I 27 (nI (50 * j + r))) (I 28 (nI (50 * j + r))) what))) S F I J P) : mhOk l K mX7_ofSide [.ref 21, .int x, .int y, .int what] S F I J P Φ := by
  refine mhOk.of (by decide) (by decide) rfl (Nat.le_of_ble_eq_true rfl) ?_
  refine mh_aload_0 dX7_ofSide_0 (q := 1) rfl ?_
  refine mh_iload_1 dX7_ofSide_1 (q := 2) rfl ?_
  refine mh_iload_2 dX7_ofSide_2 (q := 3) rfl ?_
  refine mh_callV2 ca_X7_ofSide_3 (shX7_0 hM.1) (q := 6) rfl (by simp [Value.category]) ⟨Nat.zero_le _, Nat.zero_le _⟩ ?_
  refine sp_X7_isSide hM (fun j r hj hr ej er => ?_) (fun hk => ?_)
  · skip
    subst ej; subst er
    refine mh_if_ne dX7_ofSide_6 (tgt := 11) (q := 9) rfl rfl (fun _ => ?_) (fun hh => False.elim (by revert hh; decide))
    refine mh_iload_3 dX7_ofSide_11 (q := 12) rfl ?_
    refine mh_iconst_0 dX7_ofSide_12 (q := 13) rfl ?_
    refine mh_iconst_4 dX7_ofSide_13 (q := 14) rfl ?_
    refine mh_callS3 ca_X7_ofSide_14 (q := 17) rfl (by simp [Value.category]) ⟨Nat.zero_le _, Nat.zero_le _⟩ ?_
    refine sp_X7_within (fun c14 => ?_) (fun c14 => ?_)
    · skip
      refine mh_if_ne dX7_ofSide_17 (tgt := 23) (q := 20) rfl rfl (fun _ => ?_) (fun hh => False.elim (by revert hh; decide))
      refine mh_iload_3 dX7_ofSide_23 (q := 24) rfl ?_
      refine mh_if_ne dX7_ofSide_24 (tgt := 39) (q := 27) rfl rfl (fun c24 => ?_) (fun c24 => ?_)
      · skip
        refine mh_iload_3 dX7_ofSide_39 (q := 40) rfl ?_
        refine mh_iconst_4 dX7_ofSide_40 (q := 41) rfl ?_
        refine mh_icmp_ne dX7_ofSide_41 (tgt := 56) (q := 44) rfl rfl (fun c41 => ?_) (fun c41 => ?_)
        · skip
          refine mh_bipush (v := (-9)) dX7_ofSide_56 (q := 58) rfl (by decide) ?_
          refine mh_istore_4 dX7_ofSide_58 (q := 60) rfl ?_
          refine mh_bipush (v := (-9)) dX7_ofSide_60 (q := 62) rfl (by decide) ?_
          refine mh_istore_5 dX7_ofSide_62 (q := 64) rfl ?_
          refine mh_bipush (v := (-9)) dX7_ofSide_64 (q := 66) rfl (by decide) ?_
          refine mh_istore_6 dX7_ofSide_66 (q := 68) rfl ?_
          refine mh_iconst_0 dX7_ofSide_68 (q := 69) rfl ?_
          refine mh_istore_7 dX7_ofSide_69 (q := 71) rfl ?_
          refine lp_X7_ofSide (kc := mX7_ofSide.2.2.2.2.cells) (ks := mX7_ofSide.2.2.2.2.slots) hM.1 (hM.2.2.2 j hj) hr (what := what) (fun o8 => ?_) _ 0 _ (Nat.zero_add _)
          rw [gK1 (hM.2.2.2 j hj).2.1 hr]
          dsimp only
          refine mh_iload_3 dX7_ofSide_152 (q := 153) rfl ?_
          refine mh_iconst_1 dX7_ofSide_153 (q := 154) rfl ?_
          refine mh_icmp_ne dX7_ofSide_154 (tgt := 162) (q := 157) rfl rfl (fun c154 => ?_) (fun c154 => ?_)
          · skip
            refine mh_iload_3 dX7_ofSide_162 (q := 163) rfl ?_
            refine mh_iconst_2 dX7_ofSide_163 (q := 164) rfl ?_
            refine mh_icmp_ne dX7_ofSide_164 (tgt := 172) (q := 167) rfl rfl (fun c164 => ?_) (fun c164 => ?_)
            · skip
              refine mh_iload_5 dX7_ofSide_172 (q := 174) rfl ?_
              refine mh_ireturn dX7_ofSide_174 rfl rfl ?_
              exact mh_cl (ht j r hj hr rfl rfl) (by grind [mhOsR])
            · skip
              refine mh_iload_4 dX7_ofSide_167 (q := 169) rfl ?_
              refine mh_goto dX7_ofSide_169 (tgt := 174) rfl ?_
              refine mh_ireturn dX7_ofSide_174 rfl rfl ?_
              exact mh_cl (ht j r hj hr rfl rfl) (by grind [mhOsR])
          · skip
            refine mh_iload_6 dX7_ofSide_157 (q := 159) rfl ?_
            refine mh_goto dX7_ofSide_159 (tgt := 174) rfl ?_
            refine mh_ireturn dX7_ofSide_174 rfl rfl ?_
            exact mh_cl (ht j r hj hr rfl rfl) (by grind [mhOsR])
        · skip
          refine mh_aload_0 dX7_ofSide_44 (q := 45) rfl ?_
          refine mh_getR fl_X7_28 dX7_ofSide_45 (q := 48) rfl (shX7_0 hM.1) rfl ?_
          refine mh_bipush (v := 50) dX7_ofSide_48 (q := 50) rfl (by decide) ?_
          refine mh_iload_1 dX7_ofSide_50 (q := 51) rfl ?_
          refine mh_imul dX7_ofSide_51 (q := 52) rfl ?_
          refine mh_iload_2 dX7_ofSide_52 (q := 53) rfl ?_
          refine mh_iadd dX7_ofSide_53 (q := 54) rfl ?_
          refine mh_iald dX7_ofSide_54 (q := 55) rfl (shX7_7 hM.1) (by rw [mh_e50]; exact vp_in_nI (by have := gBd (hM.2.2.2 j hj).2.1; have := hM.2.1; omega) (by decide)) ?_
          rw [mh_e50]
          refine mh_ireturn dX7_ofSide_55 rfl rfl ?_
          exact mh_cl (ht j r hj hr rfl rfl) (by grind [mhOsR])
      · skip
        refine mh_aload_0 dX7_ofSide_27 (q := 28) rfl ?_
        refine mh_getR fl_X7_25 dX7_ofSide_28 (q := 31) rfl (shX7_0 hM.1) rfl ?_
        refine mh_bipush (v := 50) dX7_ofSide_31 (q := 33) rfl (by decide) ?_
        refine mh_iload_1 dX7_ofSide_33 (q := 34) rfl ?_
        refine mh_imul dX7_ofSide_34 (q := 35) rfl ?_
        refine mh_iload_2 dX7_ofSide_35 (q := 36) rfl ?_
        refine mh_iadd dX7_ofSide_36 (q := 37) rfl ?_
        refine mh_iald dX7_ofSide_37 (q := 38) rfl (shX7_6 hM.1) (by rw [mh_e50]; exact vp_in_nI (by have := gBd (hM.2.2.2 j hj).2.1; have := hM.2.1; omega) (by decide)) ?_
        rw [mh_e50]
        refine mh_ireturn dX7_ofSide_38 rfl rfl ?_
        exact mh_cl (ht j r hj hr rfl rfl) (by grind [mhOsR])
    · skip
      refine mh_if_ne dX7_ofSide_17 (tgt := 23) (q := 20) rfl rfl (fun hh => False.elim (by revert hh; decide)) (fun _ => ?_)
      refine mh_bipush (v := (-2)) dX7_ofSide_20 (q := 22) rfl (by decide) ?_
      refine mh_ireturn dX7_ofSide_22 rfl rfl ?_
      exact mh_cl (ht j r hj hr rfl rfl) (by grind [mhOsR])
  · skip
    refine mh_if_ne dX7_ofSide_6 (tgt := 11) (q := 9) rfl rfl (fun hh => False.elim (by revert hh; decide)) (fun _ => ?_)
    refine mh_iconst_m1 dX7_ofSide_9 (q := 10) rfl ?_
    refine mh_ireturn dX7_ofSide_10 rfl rfl ?_
    exact hn hk
set_option maxHeartbeats 4000000 in
set_option maxRecDepth 100000 in
theorem sp_X7_side {l : Launch} {K : mhX} {Φ : mhQ} {S : List mhS} {F : mhF} {I : mhI} {J : mhJ} {P : mhP} {nh : Nat} {wd hg : Nat → Nat} (hM : mhHR S F I nh wd hg) {x y way : Int32} (hn : ¬ vHR nh wd hg x y → Φ (some (.int (-1))) S F I J P) (ht : ∀ j r, j < nh → r < gRooms (wd j) (hg j) → x = nI j → y = nI r → Φ (some (.int (mhSiR (wd j) (hg j) r way))) S F I J P) : mhOk l K mX7_side [.ref 21, .int x, .int y, .int way] S F I J P Φ := by
  refine mhOk.of (by decide) (by decide) rfl (Nat.le_of_ble_eq_true rfl) ?_
  refine mh_aload_0 dX7_side_0 (q := 1) rfl ?_
  refine mh_iload_1 dX7_side_1 (q := 2) rfl ?_
  refine mh_iload_2 dX7_side_2 (q := 3) rfl ?_
  refine mh_callV2 ca_X7_side_3 (shX7_0 hM.1) (q := 6) rfl (by simp [Value.category]) ⟨Nat.zero_le _, Nat.zero_le _⟩ ?_
  refine sp_X7_isRoom hM (fun j r hj hr ej er => ?_) (fun hk => ?_)
  · skip
    subst ej; subst er
    refine mh_if_ne dX7_side_6 (tgt := 11) (q := 9) rfl rfl (fun _ => ?_) (fun hh => False.elim (by revert hh; decide))
    refine mh_iload_3 dX7_side_11 (q := 12) rfl ?_
    refine mh_iconst_0 dX7_side_12 (q := 13) rfl ?_
    refine mh_iconst_2 dX7_side_13 (q := 14) rfl ?_
    refine mh_callS3 ca_X7_side_14 (q := 17) rfl (by simp [Value.category]) ⟨Nat.zero_le _, Nat.zero_le _⟩ ?_
    refine sp_X7_within (fun cw => ?_) (fun cw => ?_)
    · skip
      refine mh_if_eq dX7_side_17 (tgt := 30) (q := 20) rfl rfl (fun hh => False.elim (by revert hh; decide)) (fun _ => ?_)
      refine mh_aload_0 dX7_side_20 (q := 21) rfl ?_
      refine mh_iload_1 dX7_side_21 (q := 22) rfl ?_
      refine mh_iload_2 dX7_side_22 (q := 23) rfl ?_
      refine mh_iload_3 dX7_side_23 (q := 24) rfl ?_
      refine mh_callV3 ca_X7_side_24 (shX7_0 hM.1) (q := 27) rfl (by simp [Value.category]) ⟨Nat.zero_le _, Nat.zero_le _⟩ ?_
      obtain ⟨d, hd, rfl⟩ := mh_way cw
      refine sp_X7_sideOf hM.1 (hM.2.2.2 j hj) hr hd ?_
      rw [← mhSiR_at hd]
      refine mh_goto dX7_side_27 (tgt := 32) rfl ?_
      refine mh_ireturn dX7_side_32 rfl rfl ?_
      first | exact ht j r hj hr rfl rfl | (rw [← mhSiR_no (w := wd j) (h := hg j) (r := r) cw]; exact ht j r hj hr rfl rfl)
    · skip
      refine mh_if_eq dX7_side_17 (tgt := 30) (q := 20) rfl rfl (fun _ => ?_) (fun hh => False.elim (by revert hh; decide))
      refine mh_bipush (v := (-2)) dX7_side_30 (q := 32) rfl (by decide) ?_
      refine mh_ireturn dX7_side_32 rfl rfl ?_
      first | exact ht j r hj hr rfl rfl | (rw [← mhSiR_no (w := wd j) (h := hg j) (r := r) cw]; exact ht j r hj hr rfl rfl)
  · skip
    refine mh_if_ne dX7_side_6 (tgt := 11) (q := 9) rfl rfl (fun hh => False.elim (by revert hh; decide)) (fun _ => ?_)
    refine mh_iconst_m1 dX7_side_9 (q := 10) rfl ?_
    refine mh_ireturn dX7_side_10 rfl rfl ?_
    exact hn hk
set_option maxHeartbeats 4000000 in
set_option maxRecDepth 100000 in
theorem sp_X7_pane {l : Launch} {K : mhX} {Φ : mhQ} {S : List mhS} {F : mhF} {I : mhI} {J : mhJ} {P : mhP} {nh : Nat} {wd hg : Nat → Nat} (hM : mhHR S F I nh wd hg) {x y v : Int32} (hn : ¬ vHS nh wd hg x y → Φ (some (.int (-1))) S F I J P) (hb : ∀ j r, j < nh → r < gSides (wd j) (hg j) → x = nI j → y = nI r → ¬ mhSo v → Φ (some (.int (-2))) S F I J P) (ht : ∀ j r, j < nh → r < gSides (wd j) (hg j) → x = nI j → y = nI r → mhSo v → Φ (some (.int (I 27 (nI (50 * j + r))))) S F (if I 27 (nI (50 * j + r)) = v then mhUI I 27 (nI (50 * j + r)) v else mhUI (mhUI I 28 (nI (50 * j + r)) 0) 27 (nI (50 * j + r)) v) J P) : mhOk l K mX7_pane [.ref 21, .int x, .int y, .int v] S F I J P Φ := by
  refine mhOk.of (by decide) (by decide) rfl (Nat.le_of_ble_eq_true rfl) ?_
  refine mh_aload_0 dX7_pane_0 (q := 1) rfl ?_
  refine mh_iload_1 dX7_pane_1 (q := 2) rfl ?_
  refine mh_iload_2 dX7_pane_2 (q := 3) rfl ?_
  refine mh_callV2 ca_X7_pane_3 (shX7_0 hM.1) (q := 6) rfl (by simp [Value.category]) ⟨Nat.zero_le _, Nat.zero_le _⟩ ?_
  refine sp_X7_isSide hM (fun j r hj hr ej er => ?_) (fun hk => ?_)
  · skip
    subst ej; subst er
    refine mh_if_ne dX7_pane_6 (tgt := 11) (q := 9) rfl rfl (fun _ => ?_) (fun hh => False.elim (by revert hh; decide))
    refine mh_iload_3 dX7_pane_11 (q := 12) rfl ?_
    refine mh_iconst_0 dX7_pane_12 (q := 13) rfl ?_
    refine mh_iconst_2 dX7_pane_13 (q := 14) rfl ?_
    refine mh_callS3 ca_X7_pane_14 (q := 17) rfl (by simp [Value.category]) ⟨Nat.zero_le _, Nat.zero_le _⟩ ?_
    refine sp_X7_within (fun cw => ?_) (fun cw => ?_)
    · skip
      refine mh_if_ne dX7_pane_17 (tgt := 23) (q := 20) rfl rfl (fun _ => ?_) (fun hh => False.elim (by revert hh; decide))
      refine mh_bipush (v := 50) dX7_pane_23 (q := 25) rfl (by decide) ?_
      refine mh_iload_1 dX7_pane_25 (q := 26) rfl ?_
      refine mh_imul dX7_pane_26 (q := 27) rfl ?_
      refine mh_iload_2 dX7_pane_27 (q := 28) rfl ?_
      refine mh_iadd dX7_pane_28 (q := 29) rfl ?_
      refine mh_istore_4 dX7_pane_29 (q := 31) rfl ?_
      refine mh_aload_0 dX7_pane_31 (q := 32) rfl ?_
      refine mh_getR fl_X7_25 dX7_pane_32 (q := 35) rfl (shX7_0 hM.1) rfl ?_
      refine mh_iload_4 dX7_pane_35 (q := 37) rfl ?_
      refine mh_iald dX7_pane_37 (q := 38) rfl (shX7_6 hM.1) (by rw [mh_e50]; exact vp_in_nI (by have := gBd (hM.2.2.2 j hj).2.1; have := hM.2.1; omega) (by decide)) ?_
      refine mh_istore_5 dX7_pane_38 (q := 40) rfl ?_
      refine mh_iload_5 dX7_pane_40 (q := 42) rfl ?_
      refine mh_iload_3 dX7_pane_42 (q := 43) rfl ?_
      refine mh_icmp_eq dX7_pane_43 (tgt := 54) (q := 46) rfl rfl (fun c43 => ?_) (fun c43 => ?_)
      · skip
        refine mh_aload_0 dX7_pane_54 (q := 55) rfl ?_
        refine mh_getR fl_X7_25 dX7_pane_55 (q := 58) rfl (shX7_0 hM.1) rfl ?_
        refine mh_iload_4 dX7_pane_58 (q := 60) rfl ?_
        refine mh_iload_3 dX7_pane_60 (q := 61) rfl ?_
        refine mh_iast dX7_pane_61 (q := 62) rfl (shX7_6 hM.1) (by decide) (by rw [mh_e50]; exact vp_in_nI (by have := gBd (hM.2.2.2 j hj).2.1; have := hM.2.1; omega) (by decide)) ?_
        refine mh_iload_5 dX7_pane_62 (q := 64) rfl ?_
        refine mh_ireturn dX7_pane_64 rfl rfl ?_
        have h9 := ht j r hj hr rfl rfl cw
        rw [mh_e50] at c43 ⊢
        first | (rw [if_pos c43] at h9; exact h9) | (rw [if_neg c43] at h9; exact h9)
      · skip
        refine mh_aload_0 dX7_pane_46 (q := 47) rfl ?_
        refine mh_getR fl_X7_28 dX7_pane_47 (q := 50) rfl (shX7_0 hM.1) rfl ?_
        refine mh_iload_4 dX7_pane_50 (q := 52) rfl ?_
        refine mh_iconst_0 dX7_pane_52 (q := 53) rfl ?_
        refine mh_iast dX7_pane_53 (q := 54) rfl (shX7_7 hM.1) (by decide) (by rw [mh_e50]; exact vp_in_nI (by have := gBd (hM.2.2.2 j hj).2.1; have := hM.2.1; omega) (by decide)) ?_
        refine mh_aload_0 dX7_pane_54 (q := 55) rfl ?_
        refine mh_getR fl_X7_25 dX7_pane_55 (q := 58) rfl (shX7_0 hM.1) rfl ?_
        refine mh_iload_4 dX7_pane_58 (q := 60) rfl ?_
        refine mh_iload_3 dX7_pane_60 (q := 61) rfl ?_
        refine mh_iast dX7_pane_61 (q := 62) rfl (shX7_6 hM.1) (by decide) (by rw [mh_e50]; exact vp_in_nI (by have := gBd (hM.2.2.2 j hj).2.1; have := hM.2.1; omega) (by decide)) ?_
        refine mh_iload_5 dX7_pane_62 (q := 64) rfl ?_
        refine mh_ireturn dX7_pane_64 rfl rfl ?_
        have h9 := ht j r hj hr rfl rfl cw
        rw [mh_e50] at c43 ⊢
        first | (rw [if_pos c43] at h9; exact h9) | (rw [if_neg c43] at h9; exact h9)
    · skip
      refine mh_if_ne dX7_pane_17 (tgt := 23) (q := 20) rfl rfl (fun hh => False.elim (by revert hh; decide)) (fun _ => ?_)
      refine mh_bipush (v := (-2)) dX7_pane_20 (q := 22) rfl (by decide) ?_
      refine mh_ireturn dX7_pane_22 rfl rfl ?_
      exact hb j r hj hr rfl rfl cw
  · skip
    refine mh_if_ne dX7_pane_6 (tgt := 11) (q := 9) rfl rfl (fun hh => False.elim (by revert hh; decide)) (fun _ => ?_)
    refine mh_iconst_m1 dX7_pane_9 (q := 10) rfl ?_
    refine mh_ireturn dX7_pane_10 rfl rfl ?_
    exact hn hk
