/-! seen, met, image -/
set_option maxHeartbeats 4000000 in
set_option maxRecDepth 100000 in
theorem sp_X6_seen {l : Launch} {K : mhX} {Φ : mhQ} {S : List mhS} {F : mhF} {I : mhI} {J : mhJ} {P : mhP} (h4 : mhKX4 S) {nh : Nat} {wd hg aH : Nat → Nat} (hC : mhHC S F I P nh wd hg aH) {kd : Nat → Nat → Int32} (hK : ∀ j, j < nh → mhPn I (aH j) (wd j) (hg j) (kd j)) {x y p q n what : Int32} (hn : ¬ vHR nh wd hg x y → Φ (some (.int (-1))) S F I J P) (hb : vHR nh wd hg x y → ¬ mhSeA p q n what → Φ (some (.int (-2))) S F I J P) (ht : ∀ j r m, j < nh → r < gRooms (wd j) (hg j) → m ≤ 200 → x = nI j → y = nI r → n = nI m → mhSeA p q n what → ∀ (F2 : mhF) (I2 : mhI), frC F I F2 I2 → Φ (some (.int (mhSeR what (sgRun (wd j) (hg j) (kd j) (sgPa p q) m (sgSt r p q))))) S F2 I2 J P) : mhOk l K mX6_seen [.ref 0, .int x, .int y, .int p, .int q, .int n, .int what] S F I J P Φ := by
  refine mhOk.of (by decide) (by decide) rfl (Nat.le_of_ble_eq_true rfl) ?_
  refine mh_aload_0 dX6_seen_0 (q := 1) rfl ?_
  refine mh_iload_1 dX6_seen_1 (q := 2) rfl ?_
  refine mh_callV1 ca_X6_seen_2 (shX6_0 hC.1) (q := 5) rfl (by simp [Value.category]) ⟨Nat.zero_le _, Nat.zero_le _⟩ ?_
  refine sp_X6_houseAt hC (fun hk => ?_) (fun j hj ej => ?_)
  · skip
    refine mh_astoreN_7 dX6_seen_5 (q := 7) rfl ?_
    refine mh_aloadN_7 dX6_seen_7 (q := 9) rfl ?_
    refine mh_ifnullN dX6_seen_9 (tgt := 21) rfl ?_
    refine mh_iconst_m1 dX6_seen_21 (q := 22) rfl ?_
    refine mh_ireturn dX6_seen_22 rfl rfl ?_
    exact hn (fun ⟨i, hi, e, e1⟩ => by first | exact hk ⟨i, hi, e⟩ | (have e4 : j = i := (nI_eq (by have := hC.2.1; omega) (by have := hC.2.1; omega)).mp e; subst e4; exact hk e1))
  · skip
    subst ej
    refine mh_astore_7 dX6_seen_5 (q := 7) rfl ?_
    refine mh_aload_7 dX6_seen_7 (q := 9) rfl ?_
    refine mh_ifnullR dX6_seen_9 (q := 12) rfl ?_
    refine mh_aload_7 dX6_seen_12 (q := 14) rfl ?_
    refine mh_iload_2 dX6_seen_14 (q := 15) rfl ?_
    refine mh_callV1 ca_X6_seen_15 (shX1_0 (hC.2.2.2 j hj).2.1) (q := 18) rfl (by simp [Value.category]) ⟨Nat.zero_le _, Nat.zero_le _⟩ ?_
    refine sp_X1_hasRoom (hC.2.2.2 j hj).2 (fun r hr er => ?_) (fun hk => ?_)
    · skip
      subst er
      refine mh_if_ne dX6_seen_18 (tgt := 23) (q := 21) rfl rfl (fun _ => ?_) (fun hh => False.elim (by revert hh; decide))
      refine mh_iload_3 dX6_seen_23 (q := 24) rfl ?_
      refine mh_iload_4 dX6_seen_24 (q := 26) rfl ?_
      refine mh_callS2 ca_X6_seen_26 (q := 29) rfl (by simp [Value.category]) ⟨Nat.zero_le _, Nat.zero_le _⟩ ?_
      refine sp_X6_isTurn (fun ct => ?_) (fun ct => ?_)
      · skip
        refine mh_if_eq dX6_seen_29 (tgt := 54) (q := 32) rfl rfl (fun hh => False.elim (by revert hh; decide)) (fun _ => ?_)
        refine mh_iload_5 dX6_seen_32 (q := 34) rfl ?_
        refine mh_iconst_1 dX6_seen_34 (q := 35) rfl ?_
        refine mh_sipush (v := 200) dX6_seen_35 (q := 38) rfl (by decide) ?_
        refine mh_callS3 ca_X6_seen_38 (q := 41) rfl (by simp [Value.category]) ⟨Nat.zero_le _, Nat.zero_le _⟩ ?_
        refine sp_X6_within (fun ca => ?_) (fun ca => ?_)
        · skip
          refine mh_if_eq dX6_seen_41 (tgt := 54) (q := 44) rfl rfl (fun hh => False.elim (by revert hh; decide)) (fun _ => ?_)
          refine mh_iload_6 dX6_seen_44 (q := 46) rfl ?_
          refine mh_iconst_0 dX6_seen_46 (q := 47) rfl ?_
          refine mh_iconst_3 dX6_seen_47 (q := 48) rfl ?_
          refine mh_callS3 ca_X6_seen_48 (q := 51) rfl (by simp [Value.category]) ⟨Nat.zero_le _, Nat.zero_le _⟩ ?_
          refine sp_X6_within (fun cb => ?_) (fun cb => ?_)
          · skip
            refine mh_if_ne dX6_seen_51 (tgt := 57) (q := 54) rfl rfl (fun _ => ?_) (fun hh => False.elim (by revert hh; decide))
            refine mh_aload_0 dX6_seen_57 (q := 58) rfl ?_
            refine mh_getR fl_X6_42 dX6_seen_58 (q := 61) rfl (shX6_0 hC.1) rfl ?_
            refine mh_aload_7 dX6_seen_61 (q := 63) rfl ?_
            refine mh_iload_2 dX6_seen_63 (q := 64) rfl ?_
            refine mh_iload_3 dX6_seen_64 (q := 65) rfl ?_
            refine mh_iload_4 dX6_seen_65 (q := 67) rfl ?_
            refine mh_iload_5 dX6_seen_67 (q := 69) rfl ?_
            refine mh_callV5 ca_X6_seen_69 (shX4_0 h4) (q := 72) rfl (by simp [Value.category]) ⟨Nat.zero_le _, Nat.zero_le _⟩ ?_
            obtain ⟨m, hm, rfl⟩ := mh_n200 ca
            refine sp_X4_look h4 (hC.2.2.2 j hj).2 (hK j hj) hr ct.bd hm (fun F2 I2 u1 u2 => ?_)
            refine mh_iload_6 dX6_seen_72 (q := 74) rfl ?_
            refine mh_tsw dX6_seen_74 (tgt := 124) rfl (fun c74 => ?_) (fun i74 j74 c74 => ?_)
            · skip
              replace c74 : _ < (0 : Int32) ∨ (2 : Int32) < _ := c74.imp Int32.lt_iff_toInt_lt.mpr Int32.lt_iff_toInt_lt.mpr
              refine mh_aload_0 dX6_seen_124 (q := 125) rfl ?_
              refine mh_getR fl_X6_42 dX6_seen_125 (q := 128) rfl (shX6_0 hC.1) rfl ?_
              refine mh_getI fl_X6_185 dX6_seen_128 (q := 131) rfl (shX4_0 h4) rfl ?_
              refine mh_ireturn dX6_seen_131 rfl rfl ?_
              obtain ⟨q1, q2, q3, q4, q5, q6⟩ := u1
              exact mh_cl (ht j r m hj hr hm rfl rfl rfl ⟨ct, ca, cb⟩ F2 I2 u2) (by grind [mhSeR])
            · rcases (show i74 = 0 ∨ i74 = 1 ∨ i74 = 2 by omega) with rfl | rfl | rfl
              · refine ⟨26, 100, rfl, rfl, ?_⟩
                replace c74 : _ = (0 : Int32) := Int32.toInt_inj.mp c74
                refine mh_aload_0 dX6_seen_100 (q := 101) rfl ?_
                refine mh_getR fl_X6_42 dX6_seen_101 (q := 104) rfl (shX6_0 hC.1) rfl ?_
                refine mh_getI fl_X6_176 dX6_seen_104 (q := 107) rfl (shX4_0 h4) rfl ?_
                refine mh_ireturn dX6_seen_107 rfl rfl ?_
                obtain ⟨q1, q2, q3, q4, q5, q6⟩ := u1
                exact mh_cl (ht j r m hj hr hm rfl rfl rfl ⟨ct, ca, cb⟩ F2 I2 u2) (by grind [mhSeR])
              · refine ⟨34, 108, rfl, rfl, ?_⟩
                replace c74 : _ = (1 : Int32) := Int32.toInt_inj.mp c74
                refine mh_aload_0 dX6_seen_108 (q := 109) rfl ?_
                refine mh_getR fl_X6_42 dX6_seen_109 (q := 112) rfl (shX6_0 hC.1) rfl ?_
                refine mh_getI fl_X6_179 dX6_seen_112 (q := 115) rfl (shX4_0 h4) rfl ?_
                refine mh_ireturn dX6_seen_115 rfl rfl ?_
                obtain ⟨q1, q2, q3, q4, q5, q6⟩ := u1
                exact mh_cl (ht j r m hj hr hm rfl rfl rfl ⟨ct, ca, cb⟩ F2 I2 u2) (by grind [mhSeR])
              · refine ⟨42, 116, rfl, rfl, ?_⟩
                replace c74 : _ = (2 : Int32) := Int32.toInt_inj.mp c74
                refine mh_aload_0 dX6_seen_116 (q := 117) rfl ?_
                refine mh_getR fl_X6_42 dX6_seen_117 (q := 120) rfl (shX6_0 hC.1) rfl ?_
                refine mh_getI fl_X6_182 dX6_seen_120 (q := 123) rfl (shX4_0 h4) rfl ?_
                refine mh_ireturn dX6_seen_123 rfl rfl ?_
                obtain ⟨q1, q2, q3, q4, q5, q6⟩ := u1
                exact mh_cl (ht j r m hj hr hm rfl rfl rfl ⟨ct, ca, cb⟩ F2 I2 u2) (by grind [mhSeR])
          · skip
            refine mh_if_ne dX6_seen_51 (tgt := 57) (q := 54) rfl rfl (fun hh => False.elim (by revert hh; decide)) (fun _ => ?_)
            refine mh_bipush (v := (-2)) dX6_seen_54 (q := 56) rfl (by decide) ?_
            refine mh_ireturn dX6_seen_56 rfl rfl ?_
            exact hb ⟨j, hj, rfl, r, hr, rfl⟩ (fun e => by first | exact ct e.1 | exact ca e.2.1 | exact cb e.2.2)
        · skip
          refine mh_if_eq dX6_seen_41 (tgt := 54) (q := 44) rfl rfl (fun _ => ?_) (fun hh => False.elim (by revert hh; decide))
          refine mh_bipush (v := (-2)) dX6_seen_54 (q := 56) rfl (by decide) ?_
          refine mh_ireturn dX6_seen_56 rfl rfl ?_
          exact hb ⟨j, hj, rfl, r, hr, rfl⟩ (fun e => by first | exact ct e.1 | exact ca e.2.1 | exact cb e.2.2)
      · skip
        refine mh_if_eq dX6_seen_29 (tgt := 54) (q := 32) rfl rfl (fun _ => ?_) (fun hh => False.elim (by revert hh; decide))
        refine mh_bipush (v := (-2)) dX6_seen_54 (q := 56) rfl (by decide) ?_
        refine mh_ireturn dX6_seen_56 rfl rfl ?_
        exact hb ⟨j, hj, rfl, r, hr, rfl⟩ (fun e => by first | exact ct e.1 | exact ca e.2.1 | exact cb e.2.2)
    · skip
      refine mh_if_ne dX6_seen_18 (tgt := 23) (q := 21) rfl rfl (fun hh => False.elim (by revert hh; decide)) (fun _ => ?_)
      refine mh_iconst_m1 dX6_seen_21 (q := 22) rfl ?_
      refine mh_ireturn dX6_seen_22 rfl rfl ?_
      exact hn (fun ⟨i, hi, e, e1⟩ => by first | exact hk ⟨i, hi, e⟩ | (have e4 : j = i := (nI_eq (by have := hC.2.1; omega) (by have := hC.2.1; omega)).mp e; subst e4; exact hk e1))
def mhMeR (m : Nat) (g : mhSg) : Int32 := if nI g.2.2.2.1 = nI (m + 1) then g.2.2.2.2.2.1 else -9
set_option maxHeartbeats 4000000 in
set_option maxRecDepth 100000 in
theorem sp_X6_met {l : Launch} {K : mhX} {Φ : mhQ} {S : List mhS} {F : mhF} {I : mhI} {J : mhJ} {P : mhP} (h4 : mhKX4 S) {nh : Nat} {wd hg aH : Nat → Nat} (hC : mhHC S F I P nh wd hg aH) {kd : Nat → Nat → Int32} (hK : ∀ j, j < nh → mhPn I (aH j) (wd j) (hg j) (kd j)) {x y p q n : Int32} (hn : ¬ vHR nh wd hg x y → Φ (some (.int (-1))) S F I J P) (hb : vHR nh wd hg x y → ¬ (mhTurn p q ∧ 0 ≤ n) → Φ (some (.int (-2))) S F I J P) (hf : vHR nh wd hg x y → (mhTurn p q ∧ 200 ≤ n) → Φ (some (.int (-9))) S F I J P) (ht : ∀ j r m, j < nh → r < gRooms (wd j) (hg j) → m < 200 → x = nI j → y = nI r → n = nI m → mhTurn p q → ∀ (F2 : mhF) (I2 : mhI), frC F I F2 I2 → Φ (some (.int (mhMeR m (sgRun (wd j) (hg j) (kd j) (sgPa p q) (m + 1) (sgSt r p q))))) S F2 I2 J P) : mhOk l K mX6_met [.ref 0, .int x, .int y, .int p, .int q, .int n] S F I J P Φ := by
  refine mhOk.of (by decide) (by decide) rfl (Nat.le_of_ble_eq_true rfl) ?_
  refine mh_aload_0 dX6_met_0 (q := 1) rfl ?_
  refine mh_iload_1 dX6_met_1 (q := 2) rfl ?_
  refine mh_callV1 ca_X6_met_2 (shX6_0 hC.1) (q := 5) rfl (by simp [Value.category]) ⟨Nat.zero_le _, Nat.zero_le _⟩ ?_
  refine sp_X6_houseAt hC (fun hk => ?_) (fun j hj ej => ?_)
  · skip
    refine mh_astoreN_6 dX6_met_5 (q := 7) rfl ?_
    refine mh_aloadN_6 dX6_met_7 (q := 9) rfl ?_
    refine mh_ifnullN dX6_met_9 (tgt := 21) rfl ?_
    refine mh_iconst_m1 dX6_met_21 (q := 22) rfl ?_
    refine mh_ireturn dX6_met_22 rfl rfl ?_
    exact hn (fun ⟨i, hi, e, e1⟩ => by first | exact hk ⟨i, hi, e⟩ | (have e4 : j = i := (nI_eq (by have := hC.2.1; omega) (by have := hC.2.1; omega)).mp e; subst e4; exact hk e1))
  · skip
    subst ej
    refine mh_astore_6 dX6_met_5 (q := 7) rfl ?_
    refine mh_aload_6 dX6_met_7 (q := 9) rfl ?_
    refine mh_ifnullR dX6_met_9 (q := 12) rfl ?_
    refine mh_aload_6 dX6_met_12 (q := 14) rfl ?_
    refine mh_iload_2 dX6_met_14 (q := 15) rfl ?_
    refine mh_callV1 ca_X6_met_15 (shX1_0 (hC.2.2.2 j hj).2.1) (q := 18) rfl (by simp [Value.category]) ⟨Nat.zero_le _, Nat.zero_le _⟩ ?_
    refine sp_X1_hasRoom (hC.2.2.2 j hj).2 (fun r hr er => ?_) (fun hk => ?_)
    · skip
      subst er
      refine mh_if_ne dX6_met_18 (tgt := 23) (q := 21) rfl rfl (fun _ => ?_) (fun hh => False.elim (by revert hh; decide))
      refine mh_iload_3 dX6_met_23 (q := 24) rfl ?_
      refine mh_iload_4 dX6_met_24 (q := 26) rfl ?_
      refine mh_callS2 ca_X6_met_26 (q := 29) rfl (by simp [Value.category]) ⟨Nat.zero_le _, Nat.zero_le _⟩ ?_
      refine sp_X6_isTurn (fun ct => ?_) (fun ct => ?_)
      · skip
        refine mh_if_eq dX6_met_29 (tgt := 37) (q := 32) rfl rfl (fun hh => False.elim (by revert hh; decide)) (fun _ => ?_)
        refine mh_iload_5 dX6_met_32 (q := 34) rfl ?_
        refine mh_if_ge dX6_met_34 (tgt := 40) (q := 37) rfl rfl (fun cn => ?_) (fun cn => ?_)
        · skip
          refine mh_iload_5 dX6_met_40 (q := 42) rfl ?_
          refine mh_sipush (v := 200) dX6_met_42 (q := 45) rfl (by decide) ?_
          refine mh_icmp_lt dX6_met_45 (tgt := 51) (q := 48) rfl rfl (fun cm => ?_) (fun cm => ?_)
          · skip
            refine mh_aload_0 dX6_met_51 (q := 52) rfl ?_
            refine mh_getR fl_X6_42 dX6_met_52 (q := 55) rfl (shX6_0 hC.1) rfl ?_
            refine mh_aload_6 dX6_met_55 (q := 57) rfl ?_
            refine mh_iload_2 dX6_met_57 (q := 58) rfl ?_
            refine mh_iload_3 dX6_met_58 (q := 59) rfl ?_
            refine mh_iload_4 dX6_met_59 (q := 61) rfl ?_
            refine mh_iload_5 dX6_met_61 (q := 63) rfl ?_
            refine mh_iconst_1 dX6_met_63 (q := 64) rfl ?_
            refine mh_iadd dX6_met_64 (q := 65) rfl ?_
            refine mh_callV5 ca_X6_met_65 (shX4_0 h4) (q := 68) rfl (by simp [Value.category]) ⟨Nat.zero_le _, Nat.zero_le _⟩ ?_
            obtain ⟨m, hm, rfl⟩ : ∃ m, m < 200 ∧ n = nI m := by
              obtain ⟨m, hm, e⟩ := nI_of (Int32.not_lt.mpr cn)
              refine ⟨m, ?_, e⟩
              rw [e, show (200 : Int32) = nI 200 from rfl, nI_ltI hm (by decide)] at cm
              exact cm
            rw [nI_1]
            refine sp_X4_look h4 (hC.2.2.2 j hj).2 (hK j hj) hr ct.bd (by omega) (fun F2 I2 u1 u2 => ?_)
            refine mh_aload_0 dX6_met_68 (q := 69) rfl ?_
            refine mh_getR fl_X6_42 dX6_met_69 (q := 72) rfl (shX6_0 hC.1) rfl ?_
            refine mh_getI fl_X6_179 dX6_met_72 (q := 75) rfl (shX4_0 h4) rfl ?_
            refine mh_iload_5 dX6_met_75 (q := 77) rfl ?_
            refine mh_iconst_1 dX6_met_77 (q := 78) rfl ?_
            refine mh_iadd dX6_met_78 (q := 79) rfl ?_
            rw [nI_1]
            refine mh_icmp_ne dX6_met_79 (tgt := 92) (q := 82) rfl rfl (fun c79 => ?_) (fun c79 => ?_)
            · skip
              refine mh_bipush (v := (-9)) dX6_met_92 (q := 94) rfl (by decide) ?_
              refine mh_ireturn dX6_met_94 rfl rfl ?_
              obtain ⟨q1, q2, q3, q4, q5, q6⟩ := u1
              exact mh_cl (ht j r m hj hr hm rfl rfl rfl ct F2 I2 u2) (by grind [mhMeR])
            · skip
              refine mh_aload_0 dX6_met_82 (q := 83) rfl ?_
              refine mh_getR fl_X6_42 dX6_met_83 (q := 86) rfl (shX6_0 hC.1) rfl ?_
              refine mh_getI fl_X6_188 dX6_met_86 (q := 89) rfl (shX4_0 h4) rfl ?_
              refine mh_goto dX6_met_89 (tgt := 94) rfl ?_
              refine mh_ireturn dX6_met_94 rfl rfl ?_
              obtain ⟨q1, q2, q3, q4, q5, q6⟩ := u1
              exact mh_cl (ht j r m hj hr hm rfl rfl rfl ct F2 I2 u2) (by grind [mhMeR])
          · skip
            refine mh_bipush (v := (-9)) dX6_met_48 (q := 50) rfl (by decide) ?_
            refine mh_ireturn dX6_met_50 rfl rfl ?_
            exact hf ⟨j, hj, rfl, r, hr, rfl⟩ ⟨ct, Int32.not_lt.mp cm⟩
        · skip
          refine mh_bipush (v := (-2)) dX6_met_37 (q := 39) rfl (by decide) ?_
          refine mh_ireturn dX6_met_39 rfl rfl ?_
          exact hb ⟨j, hj, rfl, r, hr, rfl⟩ (fun e => by first | exact ct e.1 | exact cn e.2)
      · skip
        refine mh_if_eq dX6_met_29 (tgt := 37) (q := 32) rfl rfl (fun _ => ?_) (fun hh => False.elim (by revert hh; decide))
        refine mh_bipush (v := (-2)) dX6_met_37 (q := 39) rfl (by decide) ?_
        refine mh_ireturn dX6_met_39 rfl rfl ?_
        exact hb ⟨j, hj, rfl, r, hr, rfl⟩ (fun e => by first | exact ct e.1 | exact cn e.2)
    · skip
      refine mh_if_ne dX6_met_18 (tgt := 23) (q := 21) rfl rfl (fun hh => False.elim (by revert hh; decide)) (fun _ => ?_)
      refine mh_iconst_m1 dX6_met_21 (q := 22) rfl ?_
      refine mh_ireturn dX6_met_22 rfl rfl ?_
      exact hn (fun ⟨i, hi, e, e1⟩ => by first | exact hk ⟨i, hi, e⟩ | (have e4 : j = i := (nI_eq (by have := hC.2.1; omega) (by have := hC.2.1; omega)).mp e; subst e4; exact hk e1))
set_option maxHeartbeats 4000000 in
set_option maxRecDepth 100000 in
theorem sp_X6_image {l : Launch} {K : mhX} {Φ : mhQ} {S : List mhS} {F : mhF} {I : mhI} {J : mhJ} {P : mhP} (h4 : mhKX4 S) {nh : Nat} {wd hg aH : Nat → Nat} (hC : mhHC S F I P nh wd hg aH) {kd : Nat → Nat → Int32} (hK : ∀ j, j < nh → mhPn I (aH j) (wd j) (hg j) (kd j)) {x y p q : Int32} (hn : ¬ vHR nh wd hg x y → Φ (some (.int (-1))) S F I J P) (hb : vHR nh wd hg x y → ¬ mhTurn p q → Φ (some (.int (-2))) S F I J P) (ht : ∀ j r, j < nh → r < gRooms (wd j) (hg j) → x = nI j → y = nI r → mhTurn p q → ∀ (F2 : mhF) (I2 : mhI), frC F I F2 I2 → Φ (some (.int (sgIm (wd j) (hg j) (kd j) r p q))) S F2 I2 J P) : mhOk l K mX6_image [.ref 0, .int x, .int y, .int p, .int q] S F I J P Φ := by
  refine mhOk.of (by decide) (by decide) rfl (Nat.le_of_ble_eq_true rfl) ?_
  refine mh_aload_0 dX6_image_0 (q := 1) rfl ?_
  refine mh_iload_1 dX6_image_1 (q := 2) rfl ?_
  refine mh_callV1 ca_X6_image_2 (shX6_0 hC.1) (q := 5) rfl (by simp [Value.category]) ⟨Nat.zero_le _, Nat.zero_le _⟩ ?_
  refine sp_X6_houseAt hC (fun hk => ?_) (fun j hj ej => ?_)
  · skip
    refine mh_astoreN_5 dX6_image_5 (q := 7) rfl ?_
    refine mh_aloadN_5 dX6_image_7 (q := 9) rfl ?_
    refine mh_ifnullN dX6_image_9 (tgt := 21) rfl ?_
    refine mh_iconst_m1 dX6_image_21 (q := 22) rfl ?_
    refine mh_ireturn dX6_image_22 rfl rfl ?_
    exact hn (fun ⟨i, hi, e, e1⟩ => by first | exact hk ⟨i, hi, e⟩ | (have e4 : j = i := (nI_eq (by have := hC.2.1; omega) (by have := hC.2.1; omega)).mp e; subst e4; exact hk e1))
  · skip
    subst ej
    refine mh_astore_5 dX6_image_5 (q := 7) rfl ?_
    refine mh_aload_5 dX6_image_7 (q := 9) rfl ?_
    refine mh_ifnullR dX6_image_9 (q := 12) rfl ?_
    refine mh_aload_5 dX6_image_12 (q := 14) rfl ?_
    refine mh_iload_2 dX6_image_14 (q := 15) rfl ?_
    refine mh_callV1 ca_X6_image_15 (shX1_0 (hC.2.2.2 j hj).2.1) (q := 18) rfl (by simp [Value.category]) ⟨Nat.zero_le _, Nat.zero_le _⟩ ?_
    refine sp_X1_hasRoom (hC.2.2.2 j hj).2 (fun r hr er => ?_) (fun hk => ?_)
    · skip
      subst er
      refine mh_if_ne dX6_image_18 (tgt := 23) (q := 21) rfl rfl (fun _ => ?_) (fun hh => False.elim (by revert hh; decide))
      refine mh_iload_3 dX6_image_23 (q := 24) rfl ?_
      refine mh_iload_4 dX6_image_24 (q := 26) rfl ?_
      refine mh_callS2 ca_X6_image_26 (q := 29) rfl (by simp [Value.category]) ⟨Nat.zero_le _, Nat.zero_le _⟩ ?_
      refine sp_X6_isTurn (fun ct => ?_) (fun ct => ?_)
      · skip
        refine mh_if_eq dX6_image_29 (tgt := 48) (q := 32) rfl rfl (fun hh => False.elim (by revert hh; decide)) (fun _ => ?_)
        refine mh_aload_0 dX6_image_32 (q := 33) rfl ?_
        refine mh_getR fl_X6_42 dX6_image_33 (q := 36) rfl (shX6_0 hC.1) rfl ?_
        refine mh_aload_5 dX6_image_36 (q := 38) rfl ?_
        refine mh_iload_2 dX6_image_38 (q := 39) rfl ?_
        refine mh_iload_3 dX6_image_39 (q := 40) rfl ?_
        refine mh_iload_4 dX6_image_40 (q := 42) rfl ?_
        refine mh_callV4 ca_X6_image_42 (shX4_0 h4) (q := 45) rfl (by simp [Value.category]) ⟨Nat.zero_le _, Nat.zero_le _⟩ ?_
        refine sp_X4_imageBy h4 (hC.2.2.2 j hj).2 (hK j hj) hr ct.bd (fun F2 I2 u2 => ?_)
        refine mh_goto dX6_image_45 (tgt := 50) rfl ?_
        refine mh_ireturn dX6_image_50 rfl rfl ?_
        first | exact ht j r hj hr rfl rfl ct F2 I2 u2 | exact hb ⟨j, hj, rfl, r, hr, rfl⟩ ct
      · skip
        refine mh_if_eq dX6_image_29 (tgt := 48) (q := 32) rfl rfl (fun _ => ?_) (fun hh => False.elim (by revert hh; decide))
        refine mh_bipush (v := (-2)) dX6_image_48 (q := 50) rfl (by decide) ?_
        refine mh_ireturn dX6_image_50 rfl rfl ?_
        first | exact ht j r hj hr rfl rfl ct F2 I2 u2 | exact hb ⟨j, hj, rfl, r, hr, rfl⟩ ct
    · skip
      refine mh_if_ne dX6_image_18 (tgt := 23) (q := 21) rfl rfl (fun hh => False.elim (by revert hh; decide)) (fun _ => ?_)
      refine mh_iconst_m1 dX6_image_21 (q := 22) rfl ?_
      refine mh_ireturn dX6_image_22 rfl rfl ?_
      exact hn (fun ⟨i, hi, e, e1⟩ => by first | exact hk ⟨i, hi, e⟩ | (have e4 : j = i := (nI_eq (by have := hC.2.1; omega) (by have := hC.2.1; omega)).mp e; subst e4; exact hk e1))
