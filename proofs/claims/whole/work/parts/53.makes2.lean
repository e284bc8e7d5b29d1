/-! makings: walker of the class; report, walker of the reference -/
set_option maxHeartbeats 4000000 in
set_option maxRecDepth 100000 in
theorem sp_X6_walker {l : Launch} {K : mhX} {Φ : mhQ} {S : List mhS} {F : mhF} {I : mhI} {J : mhJ} {P : mhP} {nh : Nat} {wd hg aH : Nat → Nat} (hC : mhHC S F I P nh wd hg aH) {nw : Nat} (hn8 : nw ≤ 8) (hF9 : F 0 9 = nI nw) {kind x y way : Int32} (hn : ¬ vHR nh wd hg x y → Φ (some (.int (-1))) S F I J P) (hb : vHR nh wd hg x y → ¬ (mhSo kind ∧ mhSo way) → Φ (some (.int (-2))) S F I J P) (hf : vHR nh wd hg x y → (mhSo kind ∧ mhSo way) → nw = 8 → Φ (some (.int (-4))) S F I J P) (ht : ∀ j r, j < nh → r < gRooms (wd j) (hg j) → x = nI j → y = nI r → (mhSo kind ∧ mhSo way) → nw < 8 → ∀ (S2 : List mhS) (F2 : mhF) (I2 : mhI), exS S S2 → S2.length = S.length + 2 → mhKX5 S2 S.length → (∀ c k, c < S.length → ¬ (c = 0 ∧ k = 9) → F2 c k = F c k) → F2 0 9 = nI (nw + 1) → F2 S.length 0 = kind → F2 S.length 1 = x → F2 S.length 2 = y → F2 S.length 3 = way → (∀ k, 4 ≤ k → F2 S.length k = 0) → (∀ c y, c < S.length → I2 c y = I c y) → (∀ y, I2 (S.length + 1) y = 0) → Φ (some (.int (nI nw))) S2 F2 I2 J (mhUP P 4 (nI nw) (some S.length))) : mhOk l K mX6_walker [.ref 0, .int kind, .int x, .int y, .int way] S F I J P Φ := by
  refine mhOk.of (by decide) (by decide) rfl (Nat.le_of_ble_eq_true rfl) ?_
  refine mh_aload_0 dX6_walker_0 (q := 1) rfl ?_
  refine mh_iload_2 dX6_walker_1 (q := 2) rfl ?_
  refine mh_callV1 ca_X6_walker_2 (shX6_0 hC.1) (q := 5) rfl (by simp [Value.category]) ⟨Nat.zero_le _, Nat.zero_le _⟩ ?_
  refine sp_X6_houseAt hC (fun hk => ?_) (fun j hj ej => ?_)
  · skip
    refine mh_astoreN_5 dX6_walker_5 (q := 7) rfl ?_
    refine mh_aloadN_5 dX6_walker_7 (q := 9) rfl ?_
    refine mh_ifnullN dX6_walker_9 (tgt := 21) rfl ?_
    refine mh_iconst_m1 dX6_walker_21 (q := 22) rfl ?_
    refine mh_ireturn dX6_walker_22 rfl rfl ?_
    exact hn (fun ⟨i, hi, e, e1⟩ => by first | exact hk ⟨i, hi, e⟩ | (have e4 : j = i := (nI_eq (by have := hC.2.1; omega) (by have := hC.2.1; omega)).mp e; subst e4; exact hk e1))
  · skip
    subst ej
    refine mh_astore_5 dX6_walker_5 (q := 7) rfl ?_
    refine mh_aload_5 dX6_walker_7 (q := 9) rfl ?_
    refine mh_ifnullR dX6_walker_9 (q := 12) rfl ?_
    refine mh_aload_5 dX6_walker_12 (q := 14) rfl ?_
    refine mh_iload_3 dX6_walker_14 (q := 15) rfl ?_
    refine mh_callV1 ca_X6_walker_15 (shX1_0 (hC.2.2.2 j hj).2.1) (q := 18) rfl (by simp [Value.category]) ⟨Nat.zero_le _, Nat.zero_le _⟩ ?_
    refine sp_X1_hasRoom (hC.2.2.2 j hj).2 (fun r hr er => ?_) (fun hk => ?_)
    · skip
      subst er
      refine mh_if_ne dX6_walker_18 (tgt := 23) (q := 21) rfl rfl (fun _ => ?_) (fun hh => False.elim (by revert hh; decide))
      refine mh_iload_1 dX6_walker_23 (q := 24) rfl ?_
      refine mh_iconst_0 dX6_walker_24 (q := 25) rfl ?_
      refine mh_iconst_2 dX6_walker_25 (q := 26) rfl ?_
      refine mh_callS3 ca_X6_walker_26 (q := 29) rfl (by simp [Value.category]) ⟨Nat.zero_le _, Nat.zero_le _⟩ ?_
      refine sp_X6_within (fun ck => ?_) (fun ck => ?_)
      · skip
        refine mh_if_eq dX6_walker_29 (tgt := 40) (q := 32) rfl rfl (fun hh => False.elim (by revert hh; decide)) (fun _ => ?_)
        refine mh_iload_4 dX6_walker_32 (q := 34) rfl ?_
        refine mh_callS1 ca_X6_walker_34 (q := 37) rfl (by simp [Value.category]) ⟨Nat.zero_le _, Nat.zero_le _⟩ ?_
        refine sp_X6_isWay (fun cw => ?_) (fun cw => ?_)
        · skip
          refine mh_if_ne dX6_walker_37 (tgt := 43) (q := 40) rfl rfl (fun _ => ?_) (fun hh => False.elim (by revert hh; decide))
          refine mh_aload_0 dX6_walker_43 (q := 44) rfl ?_
          refine mh_getI fl_X6_58 dX6_walker_44 (q := 47) rfl (shX6_0 hC.1) rfl ?_
          rw [hF9]
          refine mh_aload_0 dX6_walker_47 (q := 48) rfl ?_
          refine mh_getR fl_X6_31 dX6_walker_48 (q := 51) rfl (shX6_0 hC.1) rfl ?_
          refine mh_alen (v := 8) dX6_walker_51 (q := 52) rfl (shX6_4 hC.1) (by decide) rfl ?_
          refine mh_icmp_lt dX6_walker_52 (tgt := 58) (q := 55) rfl rfl (fun c52 => ?_) (fun c52 => ?_)
          · skip
            rw [show (8 : Int32) = nI 8 from rfl, nI_ltI (by omega) (by decide)] at c52
            refine mh_aload_0 dX6_walker_58 (q := 59) rfl ?_
            refine mh_getR fl_X6_31 dX6_walker_59 (q := 62) rfl (shX6_0 hC.1) rfl ?_
            refine mh_aload_0 dX6_walker_62 (q := 63) rfl ?_
            refine mh_getI fl_X6_58 dX6_walker_63 (q := 66) rfl (shX6_0 hC.1) rfl ?_
            rw [hF9]
            refine mh_new (ci := 5) (T := TX5) (N := 8) (ty0 := tyX5) (rs := [none, none, none, none, none, none, none, some none]) dX6_walker_66 wd_91 wd_542 wd_75 rfl inX5 tyX5_ok (fun j hj => by rcases (show j = 0 ∨ j = 1 ∨ j = 2 ∨ j = 3 ∨ j = 4 ∨ j = 5 ∨ j = 6 ∨ j = 7 by omega) with rfl | rfl | rfl | rfl | rfl | rfl | rfl | rfl <;> first | exact Or.inl ⟨rfl, rfl⟩ | exact Or.inr ⟨rfl, rfl⟩) (q := 69) rfl (by decide) ?_
            have l0 := exS.lt (shX6_0 hC.1)
            refine mh_dupr dX6_walker_69 (q := 70) rfl ?_
            refine mh_iload_1 dX6_walker_70 (q := 71) rfl ?_
            refine mh_iload_2 dX6_walker_71 (q := 72) rfl ?_
            refine mh_iload_3 dX6_walker_72 (q := 73) rfl ?_
            refine mh_iload_4 dX6_walker_73 (q := 75) rfl ?_
            refine mh_callI4 ca_X6_walker_75 (q := 78) rfl (by simp [Value.category]) (by decide) ?_
            refine sp_X5_init (L := S) (b := S.length) rfl rfl (fun S2 F2 I2 sl so k5 fo f0 f1 f2 f3 f4 io iz => ?_)
            have hex : exS S S2 := exS.of so
            have h62 := hC.1.ex hex
            have foo : ∀ c k, c < S.length → F2 c k = F c k := fun c k hc => (fo c k (by omega)).trans (if_neg (by omega))
            have f9 : F2 0 9 = nI nw := (foo 0 9 l0).trans hF9
            refine mh_aast (ci := 5) dX6_walker_78 (q := 79) rfl rfl (Or.inr (Or.inr (Or.inr ⟨rfl, rfl⟩))) (shX6_4 h62) (by decide) (vp_in_nI (by omega) (by decide)) (shX5_0 k5) ?_
            refine mh_aload_0 dX6_walker_79 (q := 80) rfl ?_
            refine mh_dupr dX6_walker_80 (q := 81) rfl ?_
            refine mh_getI fl_X6_58 dX6_walker_81 (q := 84) rfl (shX6_0 h62) rfl ?_
            rw [f9]
            refine mh_iconst_1 dX6_walker_84 (q := 85) rfl ?_
            refine mh_iadd dX6_walker_85 (q := 86) rfl ?_
            rw [nI_1]
            refine mh_putI (Or.inl fw_X6_58) rfl rfl dX6_walker_86 (q := 89) rfl (shX6_0 h62) rfl ?_
            refine mh_aload_0 dX6_walker_89 (q := 90) rfl ?_
            refine mh_getI fl_X6_58 dX6_walker_90 (q := 93) rfl (shX6_0 h62) rfl ?_
            rw [mhUF_at]
            refine mh_iconst_1 dX6_walker_93 (q := 94) rfl ?_
            refine mh_isub dX6_walker_94 (q := 95) rfl ?_
            rw [show nI (nw + 1) - 1 = nI nw from by rw [← nI_1]; grind]
            refine mh_ireturn dX6_walker_95 rfl rfl ?_
            have uf : ∀ k, mhUF F2 0 9 (nI (nw + 1)) S.length k = F2 S.length k := fun k => mhUF_ne (by omega)
            exact ht j r hj hr rfl rfl ⟨ck, cw⟩ c52 S2 _ I2 hex sl k5 (fun c k hc e => (mhUF_nk e).trans (foo c k hc)) mhUF_at ((uf 0).trans f0) ((uf 1).trans f1) ((uf 2).trans f2) ((uf 3).trans f3) (fun k hk => (uf k).trans ((f4 k hk).trans (if_pos rfl))) (fun c y hc => io c y (by omega)) iz
          · skip
            rw [show (8 : Int32) = nI 8 from rfl, nI_ltI (by omega) (by decide)] at c52
            refine mh_bipush (v := (-4)) dX6_walker_55 (q := 57) rfl (by decide) ?_
            refine mh_ireturn dX6_walker_57 rfl rfl ?_
            exact hf ⟨j, hj, rfl, r, hr, rfl⟩ ⟨ck, cw⟩ (by omega)
        · skip
          refine mh_if_ne dX6_walker_37 (tgt := 43) (q := 40) rfl rfl (fun hh => False.elim (by revert hh; decide)) (fun _ => ?_)
          refine mh_bipush (v := (-2)) dX6_walker_40 (q := 42) rfl (by decide) ?_
          refine mh_ireturn dX6_walker_42 rfl rfl ?_
          exact hb ⟨j, hj, rfl, r, hr, rfl⟩ (fun z => by first | exact ck z.1 | exact cw z.2)
      · skip
        refine mh_if_eq dX6_walker_29 (tgt := 40) (q := 32) rfl rfl (fun _ => ?_) (fun hh => False.elim (by revert hh; decide))
        refine mh_bipush (v := (-2)) dX6_walker_40 (q := 42) rfl (by decide) ?_
        refine mh_ireturn dX6_walker_42 rfl rfl ?_
        exact hb ⟨j, hj, rfl, r, hr, rfl⟩ (fun z => by first | exact ck z.1 | exact cw z.2)
    · skip
      refine mh_if_ne dX6_walker_18 (tgt := 23) (q := 21) rfl rfl (fun hh => False.elim (by revert hh; decide)) (fun _ => ?_)
      refine mh_iconst_m1 dX6_walker_21 (q := 22) rfl ?_
      refine mh_ireturn dX6_walker_22 rfl rfl ?_
      exact hn (fun ⟨i, hi, e, e1⟩ => by first | exact hk ⟨i, hi, e⟩ | (have e4 : j = i := (nI_eq (by have := hC.2.1; omega) (by have := hC.2.1; omega)).mp e; subst e4; exact hk e1))
set_option maxHeartbeats 4000000 in
set_option maxRecDepth 100000 in
theorem sp_X7_report {l : Launch} {K : mhX} {Φ : mhQ} {S : List mhS} {F : mhF} {I : mhI} {J : mhJ} {P : mhP} {nh : Nat} {wd hg : Nat → Nat} (hM : mhHR S F I nh wd hg) {nr : Nat} (hn12 : nr ≤ 12) (hF20 : F 21 20 = nI nr) {x y p q saw : Int32} (hz : saw = 0 ∨ saw = 1) (hn : ¬ vHR nh wd hg x y → Φ (some (.int (-1))) S F I J P) (hb : vHR nh wd hg x y → ¬ mhTurn p q → Φ (some (.int (-2))) S F I J P) (hf : vHR nh wd hg x y → mhTurn p q → nr = 12 → Φ (some (.int (-4))) S F I J P) (ht : ∀ j r, j < nh → r < gRooms (wd j) (hg j) → x = nI j → y = nI r → mhTurn p q → nr < 12 → ∀ (F2 : mhF) (I2 : mhI), (∀ c k, ¬ (c = 21 ∧ k = 20) → F2 c k = F c k) → F2 21 20 = nI (nr + 1) → (∀ c y, ¬ (32 ≤ c ∧ c ≤ 36 ∧ y = nI nr) → I2 c y = I c y) → I2 32 (nI nr) = x → I2 33 (nI nr) = y → I2 34 (nI nr) = p → I2 35 (nI nr) = q → I2 36 (nI nr) = saw → Φ (some (.int (nI nr))) S F2 I2 J P) : mhOk l K mX7_report [.ref 21, .int x, .int y, .int p, .int q, .int saw] S F I J P Φ := by
  refine mhOk.of (by decide) (by decide) rfl (Nat.le_of_ble_eq_true rfl) ?_
  refine mh_aload_0 dX7_report_0 (q := 1) rfl ?_
  refine mh_iload_1 dX7_report_1 (q := 2) rfl ?_
  refine mh_iload_2 dX7_report_2 (q := 3) rfl ?_
  refine mh_callV2 ca_X7_report_3 (shX7_0 hM.1) (q := 6) rfl (by simp [Value.category]) ⟨Nat.zero_le _, Nat.zero_le _⟩ ?_
  refine sp_X7_isRoom hM (fun j r hj hr ej er => ?_) (fun hk => ?_)
  · skip
    subst ej; subst er
    refine mh_if_ne dX7_report_6 (tgt := 11) (q := 9) rfl rfl (fun _ => ?_) (fun hh => False.elim (by revert hh; decide))
    refine mh_iload_3 dX7_report_11 (q := 12) rfl ?_
    refine mh_iload_4 dX7_report_12 (q := 14) rfl ?_
    refine mh_callS2 ca_X7_report_14 (q := 17) rfl (by simp [Value.category]) ⟨Nat.zero_le _, Nat.zero_le _⟩ ?_
    refine sp_X7_isTurn (fun ct => ?_) (fun ct => ?_)
    · skip
      refine mh_if_ne dX7_report_17 (tgt := 23) (q := 20) rfl rfl (fun _ => ?_) (fun hh => False.elim (by revert hh; decide))
      refine mh_aload_0 dX7_report_23 (q := 24) rfl ?_
      refine mh_getI fl_X7_213 dX7_report_24 (q := 27) rfl (shX7_0 hM.1) rfl ?_
      rw [hF20]
      refine mh_bipush (v := 12) dX7_report_27 (q := 29) rfl (by decide) ?_
      refine mh_icmp_ne dX7_report_29 (tgt := 35) (q := 32) rfl rfl (fun c29 => ?_) (fun c29 => ?_)
      · skip
        rw [show (12 : Int32) = nI 12 from rfl, nI_eq (by omega) (by decide)] at c29
        refine mh_aload_0 dX7_report_35 (q := 36) rfl ?_
        refine mh_getR fl_X7_40 dX7_report_36 (q := 39) rfl (shX7_0 hM.1) rfl ?_
        refine mh_aload_0 dX7_report_39 (q := 40) rfl ?_
        refine mh_getI fl_X7_213 dX7_report_40 (q := 43) rfl (shX7_0 hM.1) rfl ?_
        rw [hF20]
        refine mh_iload_1 dX7_report_43 (q := 44) rfl ?_
        refine mh_iast dX7_report_44 (q := 45) rfl (shX7_11 hM.1) (by decide) (vp_in_nI (by omega) (by decide)) ?_
        refine mh_aload_0 dX7_report_45 (q := 46) rfl ?_
        refine mh_getR fl_X7_43 dX7_report_46 (q := 49) rfl (shX7_0 hM.1) rfl ?_
        refine mh_aload_0 dX7_report_49 (q := 50) rfl ?_
        refine mh_getI fl_X7_213 dX7_report_50 (q := 53) rfl (shX7_0 hM.1) rfl ?_
        rw [hF20]
        refine mh_iload_2 dX7_report_53 (q := 54) rfl ?_
        refine mh_iast dX7_report_54 (q := 55) rfl (shX7_12 hM.1) (by decide) (vp_in_nI (by omega) (by decide)) ?_
        refine mh_aload_0 dX7_report_55 (q := 56) rfl ?_
        refine mh_getR fl_X7_46 dX7_report_56 (q := 59) rfl (shX7_0 hM.1) rfl ?_
        refine mh_aload_0 dX7_report_59 (q := 60) rfl ?_
        refine mh_getI fl_X7_213 dX7_report_60 (q := 63) rfl (shX7_0 hM.1) rfl ?_
        rw [hF20]
        refine mh_iload_3 dX7_report_63 (q := 64) rfl ?_
        refine mh_iast dX7_report_64 (q := 65) rfl (shX7_13 hM.1) (by decide) (vp_in_nI (by omega) (by decide)) ?_
        refine mh_aload_0 dX7_report_65 (q := 66) rfl ?_
        refine mh_getR fl_X7_49 dX7_report_66 (q := 69) rfl (shX7_0 hM.1) rfl ?_
        refine mh_aload_0 dX7_report_69 (q := 70) rfl ?_
        refine mh_getI fl_X7_213 dX7_report_70 (q := 73) rfl (shX7_0 hM.1) rfl ?_
        rw [hF20]
        refine mh_iload_4 dX7_report_73 (q := 75) rfl ?_
        refine mh_iast dX7_report_75 (q := 76) rfl (shX7_14 hM.1) (by decide) (vp_in_nI (by omega) (by decide)) ?_
        refine mh_aload_0 dX7_report_76 (q := 77) rfl ?_
        refine mh_getR fl_X7_52 dX7_report_77 (q := 80) rfl (shX7_0 hM.1) rfl ?_
        refine mh_aload_0 dX7_report_80 (q := 81) rfl ?_
        refine mh_getI fl_X7_213 dX7_report_81 (q := 84) rfl (shX7_0 hM.1) rfl ?_
        rw [hF20]
        refine mh_iload_5 dX7_report_84 (q := 86) rfl ?_
        refine mh_zast dX7_report_86 (q := 87) rfl (shX7_15 hM.1) (by decide) (vp_in_nI (by omega) (by decide)) (by rcases hz with rfl | rfl <;> rfl) ?_
        refine mh_aload_0 dX7_report_87 (q := 88) rfl ?_
        refine mh_dupr dX7_report_88 (q := 89) rfl ?_
        refine mh_getI fl_X7_213 dX7_report_89 (q := 92) rfl (shX7_0 hM.1) rfl ?_
        rw [hF20]
        refine mh_iconst_1 dX7_report_92 (q := 93) rfl ?_
        refine mh_iadd dX7_report_93 (q := 94) rfl ?_
        rw [nI_1]
        refine mh_putI (Or.inl fw_X7_213) rfl rfl dX7_report_94 (q := 97) rfl (shX7_0 hM.1) rfl ?_
        refine mh_aload_0 dX7_report_97 (q := 98) rfl ?_
        refine mh_getI fl_X7_213 dX7_report_98 (q := 101) rfl (shX7_0 hM.1) rfl ?_
        rw [mhUF_at]
        refine mh_iconst_1 dX7_report_101 (q := 102) rfl ?_
        refine mh_isub dX7_report_102 (q := 103) rfl ?_
        rw [show nI (nr + 1) - 1 = nI nr from by rw [← nI_1]; grind]
        refine mh_ireturn dX7_report_103 rfl rfl ?_
        have ne : ∀ (I : mhI) (a b : Nat) (i y v : Int32), b ≠ a → mhUI I a i v b y = I b y := fun I a b i y v h => mhUI_ne h
        exact ht j r hj hr rfl rfl ct (by omega) _ _ (fun c k e => mhUF_nk e) mhUF_at (fun c y e => by
          unfold mhUI
          repeat rw [if_neg (fun z => e ⟨by omega, by omega, z.2⟩)]) (by repeat (first | rw [mhUI_ne (by decide)] | exact mh_at3)) (by repeat (first | rw [mhUI_ne (by decide)] | exact mh_at3)) (by repeat (first | rw [mhUI_ne (by decide)] | exact mh_at3)) (by repeat (first | rw [mhUI_ne (by decide)] | exact mh_at3)) mh_at3
      · skip
        rw [show (12 : Int32) = nI 12 from rfl, nI_eq (by omega) (by decide)] at c29
        refine mh_bipush (v := (-4)) dX7_report_32 (q := 34) rfl (by decide) ?_
        refine mh_ireturn dX7_report_34 rfl rfl ?_
        exact hf ⟨j, hj, rfl, r, hr, rfl⟩ ct c29
    · skip
      refine mh_if_ne dX7_report_17 (tgt := 23) (q := 20) rfl rfl (fun hh => False.elim (by revert hh; decide)) (fun _ => ?_)
      refine mh_bipush (v := (-2)) dX7_report_20 (q := 22) rfl (by decide) ?_
      refine mh_ireturn dX7_report_22 rfl rfl ?_
      exact hb ⟨j, hj, rfl, r, hr, rfl⟩ ct
  · skip
    refine mh_if_ne dX7_report_6 (tgt := 11) (q := 9) rfl rfl (fun hh => False.elim (by revert hh; decide)) (fun _ => ?_)
    refine mh_iconst_m1 dX7_report_9 (q := 10) rfl ?_
    refine mh_ireturn dX7_report_10 rfl rfl ?_
    exact hn hk
set_option maxHeartbeats 4000000 in
set_option maxRecDepth 100000 in
theorem lp_X7_walker {l : Launch} {K : mhX} {kc ks : Nat} {Φ : mhQ} {S : List mhS} {J : mhJ} {P : mhP} {F : mhF} (h7 : mhKX7 S) {nw : Nat} (hw : nw < 8) {I0 : mhI} {o1 o2 o3 o4 : Option Value} (hΦ : ∀ (I2 : mhI) (o6 : Option Value), (∀ c y, ¬ (c = 46 ∧ ∃ k, k < 50 ∧ y = nI (50 * nw + k)) → I2 c y = I0 c y) → (∀ k, k < 50 → I2 46 (nI (50 * nw + k)) = 0) → mhV l K mX7_walker kc ks Φ 147 [some (.ref 21), o1, o2, o3, o4, some (.int (nI nw)), o6] [] S F I2 J P) : ∀ (m q : Nat) (I : mhI), q + m = 50 → (∀ c y, ¬ (c = 46 ∧ ∃ k, k < 50 ∧ y = nI (50 * nw + k)) → I c y = I0 c y) → (∀ k, k < q → I 46 (nI (50 * nw + k)) = 0) → mhV l K mX7_walker kc ks Φ 120 [some (.ref 21), o1, o2, o3, o4, some (.int (nI nw)), some (.int (nI q))] [] S F I J P := by
  intro m
  induction m with
  | zero =>
    intro q I hq hf hz
    obtain rfl : q = 50 := by omega
    refine mh_iload_6 dX7_walker_120 (q := 122) rfl ?_
    refine mh_bipush (v := 50) dX7_walker_122 (q := 124) rfl (by decide) ?_
    refine mh_icmp_ge dX7_walker_124 (tgt := 147) (q := 127) rfl rfl (fun _ => ?_) (fun hh => absurd (show (50 : Int32) ≤ nI 50 by decide) hh)
    exact hΦ I _ hf hz
  | succ m ih =>
    intro q I hq hf hz
    refine mh_iload_6 dX7_walker_120 (q := 122) rfl ?_
    refine mh_bipush (v := 50) dX7_walker_122 (q := 124) rfl (by decide) ?_
    refine mh_icmp_ge dX7_walker_124 (tgt := 147) (q := 127) rfl rfl (fun hh => absurd hh (show ¬ (50 : Int32) ≤ nI q from nI_ge (b := 50) (by omega) (by decide))) (fun _ => ?_)
    refine mh_aload_0 dX7_walker_127 (q := 128) rfl ?_
    refine mh_getR fl_X7_83 dX7_walker_128 (q := 131) rfl (shX7_0 h7) rfl ?_
    refine mh_bipush (v := 50) dX7_walker_131 (q := 133) rfl (by decide) ?_
    refine mh_iload_5 dX7_walker_133 (q := 135) rfl ?_
    refine mh_imul dX7_walker_135 (q := 136) rfl ?_
    refine mh_iload_6 dX7_walker_136 (q := 138) rfl ?_
    refine mh_iadd dX7_walker_138 (q := 139) rfl ?_
    rw [mh_e50]
    refine mh_iconst_0 dX7_walker_139 (q := 140) rfl ?_
    refine mh_iast dX7_walker_140 (q := 141) rfl (shX7_25 h7) (by decide) (vp_in_nI (by omega) (by decide)) ?_
    refine mh_iinc_6 (v := 1) dX7_walker_141 (q := 144) rfl (by decide) ?_
    refine mh_goto dX7_walker_144 (tgt := 120) rfl ?_
    rw [nI_1]
    refine ih (q + 1) _ (by omega) (fun c y e => (if_neg (fun z => e ⟨z.1, q, by omega, z.2⟩)).trans (hf c y e)) (fun k hk => ?_)
    rw [mhUI_at (by omega) (by omega)]
    by_cases e : k = q
    · rw [if_pos ⟨rfl, by omega⟩]
    · rw [if_neg (fun z => e (by omega))]; exact hz k (by omega)
set_option maxHeartbeats 4000000 in
set_option maxRecDepth 100000 in
theorem sp_X7_walker {l : Launch} {K : mhX} {Φ : mhQ} {S : List mhS} {F : mhF} {I : mhI} {J : mhJ} {P : mhP} {nh : Nat} {wd hg : Nat → Nat} (hM : mhHR S F I nh wd hg) {nw : Nat} (hn8 : nw ≤ 8) (hF28 : F 21 28 = nI nw) {kind x y way : Int32} (hn : ¬ vHR nh wd hg x y → Φ (some (.int (-1))) S F I J P) (hb : vHR nh wd hg x y → ¬ (mhSo kind ∧ mhSo way) → Φ (some (.int (-2))) S F I J P) (hf : vHR nh wd hg x y → (mhSo kind ∧ mhSo way) → nw = 8 → Φ (some (.int (-4))) S F I J P) (ht : ∀ j r, j < nh → r < gRooms (wd j) (hg j) → x = nI j → y = nI r → (mhSo kind ∧ mhSo way) → nw < 8 → ∀ (F2 : mhF) (I2 : mhI), (∀ c k, ¬ (c = 21 ∧ k = 28) → F2 c k = F c k) → F2 21 28 = nI (nw + 1) → (∀ c y, ¬ (38 ≤ c ∧ c ≤ 45 ∧ y = nI nw) → ¬ (c = 46 ∧ ∃ k, k < 50 ∧ y = nI (50 * nw + k)) → I2 c y = I c y) → I2 38 (nI nw) = kind → I2 39 (nI nw) = x → I2 40 (nI nw) = y → I2 41 (nI nw) = way → I2 42 (nI nw) = 0 → I2 43 (nI nw) = 0 → I2 44 (nI nw) = 0 → I2 45 (nI nw) = -9 → (∀ k, k < 50 → I2 46 (nI (50 * nw + k)) = 0) → Φ (some (.int (nI nw))) S F2 I2 J P) : mhOk l K mX7_walker [.ref 21, .int kind, .int x, .int y, .int way] S F I J P Φ := by
  refine mhOk.of (by decide) (by decide) rfl (Nat.le_of_ble_eq_true rfl) ?_
  refine mh_aload_0 dX7_walker_0 (q := 1) rfl ?_
  refine mh_iload_2 dX7_walker_1 (q := 2) rfl ?_
  refine mh_iload_3 dX7_walker_2 (q := 3) rfl ?_
  refine mh_callV2 ca_X7_walker_3 (shX7_0 hM.1) (q := 6) rfl (by simp [Value.category]) ⟨Nat.zero_le _, Nat.zero_le _⟩ ?_
  refine sp_X7_isRoom hM (fun j r hj hr ej er => ?_) (fun hk => ?_)
  · skip
    subst ej; subst er
    refine mh_if_ne dX7_walker_6 (tgt := 11) (q := 9) rfl rfl (fun _ => ?_) (fun hh => False.elim (by revert hh; decide))
    refine mh_iload_1 dX7_walker_11 (q := 12) rfl ?_
    refine mh_iconst_0 dX7_walker_12 (q := 13) rfl ?_
    refine mh_iconst_2 dX7_walker_13 (q := 14) rfl ?_
    refine mh_callS3 ca_X7_walker_14 (q := 17) rfl (by simp [Value.category]) ⟨Nat.zero_le _, Nat.zero_le _⟩ ?_
    refine sp_X7_within (fun ck => ?_) (fun ck => ?_)
    · skip
      refine mh_if_eq dX7_walker_17 (tgt := 30) (q := 20) rfl rfl (fun hh => False.elim (by revert hh; decide)) (fun _ => ?_)
      refine mh_iload_4 dX7_walker_20 (q := 22) rfl ?_
      refine mh_iconst_0 dX7_walker_22 (q := 23) rfl ?_
      refine mh_iconst_2 dX7_walker_23 (q := 24) rfl ?_
      refine mh_callS3 ca_X7_walker_24 (q := 27) rfl (by simp [Value.category]) ⟨Nat.zero_le _, Nat.zero_le _⟩ ?_
      refine sp_X7_within (fun cw => ?_) (fun cw => ?_)
      · skip
        refine mh_if_ne dX7_walker_27 (tgt := 33) (q := 30) rfl rfl (fun _ => ?_) (fun hh => False.elim (by revert hh; decide))
        refine mh_aload_0 dX7_walker_33 (q := 34) rfl ?_
        refine mh_getI fl_X7_219 dX7_walker_34 (q := 37) rfl (shX7_0 hM.1) rfl ?_
        rw [hF28]
        refine mh_bipush (v := 8) dX7_walker_37 (q := 39) rfl (by decide) ?_
        refine mh_icmp_ne dX7_walker_39 (tgt := 45) (q := 42) rfl rfl (fun c39 => ?_) (fun c39 => ?_)
        · skip
          rw [show (8 : Int32) = nI 8 from rfl, nI_eq (by omega) (by decide)] at c39
          refine mh_aload_0 dX7_walker_45 (q := 46) rfl ?_
          refine mh_getI fl_X7_219 dX7_walker_46 (q := 49) rfl (shX7_0 hM.1) rfl ?_
          rw [hF28]
          refine mh_istore_5 dX7_walker_49 (q := 51) rfl ?_
          refine mh_aload_0 dX7_walker_51 (q := 52) rfl ?_
          refine mh_getR fl_X7_59 dX7_walker_52 (q := 55) rfl (shX7_0 hM.1) rfl ?_
          refine mh_iload_5 dX7_walker_55 (q := 57) rfl ?_
          refine mh_iload_1 dX7_walker_57 (q := 58) rfl ?_
          refine mh_iast dX7_walker_58 (q := 59) rfl (shX7_17 hM.1) (by decide) (vp_in_nI (by omega) (by decide)) ?_
          refine mh_aload_0 dX7_walker_59 (q := 60) rfl ?_
          refine mh_getR fl_X7_62 dX7_walker_60 (q := 63) rfl (shX7_0 hM.1) rfl ?_
          refine mh_iload_5 dX7_walker_63 (q := 65) rfl ?_
          refine mh_iload_2 dX7_walker_65 (q := 66) rfl ?_
          refine mh_iast dX7_walker_66 (q := 67) rfl (shX7_18 hM.1) (by decide) (vp_in_nI (by omega) (by decide)) ?_
          refine mh_aload_0 dX7_walker_67 (q := 68) rfl ?_
          refine mh_getR fl_X7_65 dX7_walker_68 (q := 71) rfl (shX7_0 hM.1) rfl ?_
          refine mh_iload_5 dX7_walker_71 (q := 73) rfl ?_
          refine mh_iload_3 dX7_walker_73 (q := 74) rfl ?_
          refine mh_iast dX7_walker_74 (q := 75) rfl (shX7_19 hM.1) (by decide) (vp_in_nI (by omega) (by decide)) ?_
          refine mh_aload_0 dX7_walker_75 (q := 76) rfl ?_
          refine mh_getR fl_X7_68 dX7_walker_76 (q := 79) rfl (shX7_0 hM.1) rfl ?_
          refine mh_iload_5 dX7_walker_79 (q := 81) rfl ?_
          refine mh_iload_4 dX7_walker_81 (q := 83) rfl ?_
          refine mh_iast dX7_walker_83 (q := 84) rfl (shX7_20 hM.1) (by decide) (vp_in_nI (by omega) (by decide)) ?_
          refine mh_aload_0 dX7_walker_84 (q := 85) rfl ?_
          refine mh_getR fl_X7_71 dX7_walker_85 (q := 88) rfl (shX7_0 hM.1) rfl ?_
          refine mh_iload_5 dX7_walker_88 (q := 90) rfl ?_
          refine mh_iconst_0 dX7_walker_90 (q := 91) rfl ?_
          refine mh_iast dX7_walker_91 (q := 92) rfl (shX7_21 hM.1) (by decide) (vp_in_nI (by omega) (by decide)) ?_
          refine mh_aload_0 dX7_walker_92 (q := 93) rfl ?_
          refine mh_getR fl_X7_74 dX7_walker_93 (q := 96) rfl (shX7_0 hM.1) rfl ?_
          refine mh_iload_5 dX7_walker_96 (q := 98) rfl ?_
          refine mh_iconst_0 dX7_walker_98 (q := 99) rfl ?_
          refine mh_iast dX7_walker_99 (q := 100) rfl (shX7_22 hM.1) (by decide) (vp_in_nI (by omega) (by decide)) ?_
          refine mh_aload_0 dX7_walker_100 (q := 101) rfl ?_
          refine mh_getR fl_X7_77 dX7_walker_101 (q := 104) rfl (shX7_0 hM.1) rfl ?_
          refine mh_iload_5 dX7_walker_104 (q := 106) rfl ?_
          refine mh_iconst_0 dX7_walker_106 (q := 107) rfl ?_
          refine mh_iast dX7_walker_107 (q := 108) rfl (shX7_23 hM.1) (by decide) (vp_in_nI (by omega) (by decide)) ?_
          refine mh_aload_0 dX7_walker_108 (q := 109) rfl ?_
          refine mh_getR fl_X7_80 dX7_walker_109 (q := 112) rfl (shX7_0 hM.1) rfl ?_
          refine mh_iload_5 dX7_walker_112 (q := 114) rfl ?_
          refine mh_bipush (v := (-9)) dX7_walker_114 (q := 116) rfl (by decide) ?_
          refine mh_iast dX7_walker_116 (q := 117) rfl (shX7_24 hM.1) (by decide) (vp_in_nI (by omega) (by decide)) ?_
          refine mh_iconst_0 dX7_walker_117 (q := 118) rfl ?_
          refine mh_istore_6 dX7_walker_118 (q := 120) rfl ?_
          refine lp_X7_walker hM.1 (by omega) (fun I2 o6 io iz => ?_) 50 0 _ rfl (fun _ _ _ => rfl) (fun k hk => absurd hk (Nat.not_lt_zero k))
          refine mh_aload_0 dX7_walker_147 (q := 148) rfl ?_
          refine mh_dupr dX7_walker_148 (q := 149) rfl ?_
          refine mh_getI fl_X7_219 dX7_walker_149 (q := 152) rfl (shX7_0 hM.1) rfl ?_
          rw [hF28]
          refine mh_iconst_1 dX7_walker_152 (q := 153) rfl ?_
          refine mh_iadd dX7_walker_153 (q := 154) rfl ?_
          rw [nI_1]
          refine mh_putI (Or.inl fw_X7_219) rfl rfl dX7_walker_154 (q := 157) rfl (shX7_0 hM.1) rfl ?_
          refine mh_iload_5 dX7_walker_157 (q := 159) rfl ?_
          refine mh_ireturn dX7_walker_159 rfl rfl ?_
          exact ht j r hj hr rfl rfl ⟨ck, cw⟩ (by omega) _ I2 (fun c k e => mhUF_nk e) mhUF_at (fun c y e1 e2 => (io c y e2).trans (by
            unfold mhUI
            repeat rw [if_neg (fun z => e1 ⟨by omega, by omega, z.2⟩)])) (by rw [io _ _ (fun z => absurd z.1 (by decide))]; repeat (first | exact mh_at3 | rw [mhUI_ne (by decide)])) (by rw [io _ _ (fun z => absurd z.1 (by decide))]; repeat (first | exact mh_at3 | rw [mhUI_ne (by decide)])) (by rw [io _ _ (fun z => absurd z.1 (by decide))]; repeat (first | exact mh_at3 | rw [mhUI_ne (by decide)])) (by rw [io _ _ (fun z => absurd z.1 (by decide))]; repeat (first | exact mh_at3 | rw [mhUI_ne (by decide)])) (by rw [io _ _ (fun z => absurd z.1 (by decide))]; repeat (first | exact mh_at3 | rw [mhUI_ne (by decide)])) (by rw [io _ _ (fun z => absurd z.1 (by decide))]; repeat (first | exact mh_at3 | rw [mhUI_ne (by decide)])) (by rw [io _ _ (fun z => absurd z.1 (by decide))]; repeat (first | exact mh_at3 | rw [mhUI_ne (by decide)])) (by rw [io _ _ (fun z => absurd z.1 (by decide))]; repeat (first | exact mh_at3 | rw [mhUI_ne (by decide)])) iz
        · skip
          rw [show (8 : Int32) = nI 8 from rfl, nI_eq (by omega) (by decide)] at c39
          refine mh_bipush (v := (-4)) dX7_walker_42 (q := 44) rfl (by decide) ?_
          refine mh_ireturn dX7_walker_44 rfl rfl ?_
          exact hf ⟨j, hj, rfl, r, hr, rfl⟩ ⟨ck, cw⟩ c39
      · skip
        refine mh_if_ne dX7_walker_27 (tgt := 33) (q := 30) rfl rfl (fun hh => False.elim (by revert hh; decide)) (fun _ => ?_)
        refine mh_bipush (v := (-2)) dX7_walker_30 (q := 32) rfl (by decide) ?_
        refine mh_ireturn dX7_walker_32 rfl rfl ?_
        exact hb ⟨j, hj, rfl, r, hr, rfl⟩ (fun z => by first | exact ck z.1 | exact cw z.2)
    · skip
      refine mh_if_eq dX7_walker_17 (tgt := 30) (q := 20) rfl rfl (fun _ => ?_) (fun hh => False.elim (by revert hh; decide))
      refine mh_bipush (v := (-2)) dX7_walker_30 (q := 32) rfl (by decide) ?_
      refine mh_ireturn dX7_walker_32 rfl rfl ?_
      exact hb ⟨j, hj, rfl, r, hr, rfl⟩ (fun z => by first | exact ck z.1 | exact cw z.2)
  · skip
    refine mh_if_ne dX7_walker_6 (tgt := 11) (q := 9) rfl rfl (fun hh => False.elim (by revert hh; decide)) (fun _ => ?_)
    refine mh_iconst_m1 dX7_walker_9 (q := 10) rfl ?_
    refine mh_ireturn dX7_walker_10 rfl rfl ?_
    exact hn hk
