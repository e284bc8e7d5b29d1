/-! photographs -/
theorem mhAg_0 {s len o i n : Int32} (h : mhAg s len o i n = 0) (h0 : 0 ≤ len) (h1 : len ≤ 60) : ¬ s = -9 ∧ ∃ ii nn, ii + nn ≤ 60 ∧ i = nI ii ∧ n = nI nn := by
  unfold mhAg at h
  split at h
  · exact absurd h (by decide)
  · split at h
    · exact absurd h (by decide)
    · rename_i h3
      split at h
      · exact absurd h (by decide)
      · rename_i h4
        split at h
        · rename_i h5
          obtain ⟨ii, hi, rfl⟩ := nI_of (Int32.not_lt.mpr h5.1)
          obtain ⟨nn, hn, rfl⟩ := nI_of h4
          obtain ⟨ll, hl, rfl⟩ := nI_of (Int32.not_lt.mpr h0)
          have e1 : ll ≤ 60 := by
            have : nI ll ≤ nI 60 := h1
            exact (nI_leI hl (by decide)).mp this
          have e2 : ii ≤ ll := (nI_leI hi hl).mp h5.2.1
          have e3 := h5.2.2
          rw [pk_sub e2, nI_leI hn (by omega)] at e3
          exact ⟨h3, ii, nn, by omega, rfl, rfl⟩
        · exact absurd h (by decide)
def phOk (cl : Nat → Int32) (ii : Nat) (n : Int32) : Prop := ∃ nn, n = nI nn ∧ 5 ≤ nn ∧ nn ≤ 30 ∧ nn % 5 = 0 ∧ ∀ t, 5 * t < nn → mhTurn (cl (ii + 5 * t)) (cl (ii + 5 * t + 1))
theorem mh_s5 (t : Nat) : nI (5 * t) + 5 = nI (5 * (t + 1)) := by rw [show (5 : Int32) = nI 5 from rfl, nI_add]; exact congrArg nI (by omega)
theorem mh_d5 {n : Nat} (hn : n < 2 ^ 31) : nI n / 5 = nI (n / 5) := by rw [show (5 : Int32) = nI 5 from rfl]; exact pk_div hn (by decide) (by decide)
theorem mh_r5 {n : Nat} (hn : n < 2 ^ 31) : nI n - nI n / 5 * 5 = nI (n % 5) := by rw [show (5 : Int32) = nI 5 from rfl]; exact pk_rem hn (by decide) (by decide)
theorem mh_n530 {n : Int32} (h : 5 ≤ n ∧ n ≤ 30) : ∃ k, 5 ≤ k ∧ k ≤ 30 ∧ n = nI k := by
  obtain ⟨k, hk, e⟩ := mh_of2 (n := 30) (M := 30) rfl (by grind) h.2
  refine ⟨k, ?_, by omega, e⟩
  rw [e, show (5 : Int32) = nI 5 from rfl, nI_leI (by decide) (by omega)] at h
  exact h.1
set_option maxHeartbeats 4000000 in
set_option maxRecDepth 100000 in
theorem lp_X6_photograph {l : Launch} {K : mhX} {kc ks : Nat} {Φ : mhQ} {S : List mhS} {F F0 : mhF} {I : mhI} {J : mhJ} {P : mhP} (h6 : mhKX6 S) (hP : mhSh S F0 P) {cl : Nat → Int32} {j ii nn : Nat} (hj : j < 4) (hcl : ∀ c, c < 60 → I (13 + 2 * j + 1) (nI c) = cl c) (hin : ii + nn ≤ 60) (h5 : 5 ≤ nn) (h30 : nn ≤ 30) (hm : nn % 5 = 0) {k so : Int32} (o6 : Option Value) (hz : ¬ (∀ t, 5 * t < nn → mhTurn (cl (ii + 5 * t)) (cl (ii + 5 * t + 1))) → Φ (some (.int (-2))) S F I J P) (ht : ∀ I2 : mhI, (∀ t, 5 * t < nn → mhTurn (cl (ii + 5 * t)) (cl (ii + 5 * t + 1))) → (∀ x, x < 30 → I2 5 (nI x) = if x < nn then cl (ii + x) else I 5 (nI x)) → (∀ b y, b ≠ 5 → I2 b y = I b y) → Φ (some (.int (nI (nn / 5)))) S (mhUF F 0 10 (nI (nn / 5))) I2 J P) : ∀ (m t : Nat), 5 * (t + m) = nn → (∀ s, s < t → mhTurn (cl (ii + 5 * s)) (cl (ii + 5 * s + 1))) → mhV l K mX6_photograph kc ks Φ 76 [some (.ref 0), some (.int k), some (.int so), some (.int (nI ii)), some (.int (nI nn)), some (.ref (13 + 2 * j)), o6, some (.int (nI (5 * t)))] [] S F I J P := by
  intro m
  induction m with
  | zero =>
    intro t e hs
    have e0 : 5 * t = nn := by omega
    have hal : ∀ t, 5 * t < nn → mhTurn (cl (ii + 5 * t)) (cl (ii + 5 * t + 1)) := fun s h => hs s (by omega)
    refine mh_iload_7 dX6_photograph_76 (q := 78) rfl ?_
    refine mh_iload_4 dX6_photograph_78 (q := 80) rfl ?_
    refine mh_icmp_ge dX6_photograph_80 (tgt := 120) (q := 83) rfl rfl (fun _ => ?_) (fun hh => absurd (show nI nn ≤ nI (5 * t) from nI_le (by omega) (by omega)) hh)
    refine mh_aload_5 dX6_photograph_120 (q := 122) rfl ?_
    refine mh_getR fl_X6_102 dX6_photograph_122 (q := 125) rfl (shX3_0 (hP j hj).2.1) rfl ?_
    refine mh_iload_3 dX6_photograph_125 (q := 126) rfl ?_
    refine mh_aload_0 dX6_photograph_126 (q := 127) rfl ?_
    refine mh_getR fl_X6_35 dX6_photograph_127 (q := 130) rfl (shX6_0 h6) rfl ?_
    refine mh_iconst_0 dX6_photograph_130 (q := 131) rfl ?_
    refine mh_iload_4 dX6_photograph_131 (q := 133) rfl ?_
    refine mh_copyI dX6_photograph_133 wd_arcL_X6_235 wd_arcN wd_arcS wd_arcI (by decide) (by decide) (by simp [Value.category]) (shX3_1 (hP j hj).2.1) (shX6_5 h6) (by decide) (nI_pos (by omega)) (by decide) (nI_pos (by omega)) (by rw [nI_clamp (by omega), nI_clamp (by omega)]; exact hin) (by rw [nI_clamp (by omega)]; show 0 + nn ≤ 30; omega) (q := 136) rfl ?_
    refine mh_aload_0 dX6_photograph_136 (q := 137) rfl ?_
    refine mh_iload_4 dX6_photograph_137 (q := 139) rfl ?_
    refine mh_iconst_5 dX6_photograph_139 (q := 140) rfl ?_
    refine mh_idiv dX6_photograph_140 (q := 141) rfl (by decide) ?_
    rw [mh_d5 (by omega)]
    refine mh_putI (Or.inl fw_X6_241) rfl rfl dX6_photograph_141 (q := 144) rfl (shX6_0 h6) rfl ?_
    refine mh_aload_0 dX6_photograph_144 (q := 145) rfl ?_
    refine mh_getI fl_X6_241 dX6_photograph_145 (q := 148) rfl (shX6_0 h6) rfl ?_
    rw [mhUF_at]
    refine mh_ireturn dX6_photograph_148 rfl rfl ?_
    refine ht _ hal (fun x hx => ?_) (fun b y hb => ?_)
    · rw [nI_clamp (by omega), nI_clamp (by omega)]
      rw [show (0 : Int32).toNatClampNeg = 0 from rfl, mhCp_at (by omega)]
      by_cases c : x < nn
      · rw [if_pos ⟨rfl, by omega, by omega⟩, if_pos c, show ii + (x - 0) = ii + x by omega]
        exact hcl _ (by omega)
      · rw [if_neg (fun e => c (by omega)), if_neg c]
    · exact if_neg (fun e => hb e.1)
  | succ m ih =>
    intro t e hs
    refine mh_iload_7 dX6_photograph_76 (q := 78) rfl ?_
    refine mh_iload_4 dX6_photograph_78 (q := 80) rfl ?_
    refine mh_icmp_ge dX6_photograph_80 (tgt := 120) (q := 83) rfl rfl (fun hh => absurd hh (show ¬ nI nn ≤ nI (5 * t) from nI_ge (by omega) (by omega))) (fun _ => ?_)
    refine mh_aload_5 dX6_photograph_83 (q := 85) rfl ?_
    refine mh_getR fl_X6_102 dX6_photograph_85 (q := 88) rfl (shX3_0 (hP j hj).2.1) rfl ?_
    refine mh_iload_3 dX6_photograph_88 (q := 89) rfl ?_
    refine mh_iload_7 dX6_photograph_89 (q := 91) rfl ?_
    refine mh_iadd dX6_photograph_91 (q := 92) rfl ?_
    rw [nI_add]
    refine mh_iald dX6_photograph_92 (q := 93) rfl (shX3_1 (hP j hj).2.1) (vp_in_nI (by omega) (by decide)) ?_
    rw [hcl _ (by omega)]
    refine mh_aload_5 dX6_photograph_93 (q := 95) rfl ?_
    refine mh_getR fl_X6_102 dX6_photograph_95 (q := 98) rfl (shX3_0 (hP j hj).2.1) rfl ?_
    refine mh_iload_3 dX6_photograph_98 (q := 99) rfl ?_
    refine mh_iload_7 dX6_photograph_99 (q := 101) rfl ?_
    refine mh_iadd dX6_photograph_101 (q := 102) rfl ?_
    rw [nI_add]
    refine mh_iconst_1 dX6_photograph_102 (q := 103) rfl ?_
    refine mh_iadd dX6_photograph_103 (q := 104) rfl ?_
    rw [nI_1]
    refine mh_iald dX6_photograph_104 (q := 105) rfl (shX3_1 (hP j hj).2.1) (vp_in_nI (by omega) (by decide)) ?_
    rw [hcl _ (by omega)]
    refine mh_callS2 ca_X6_photograph_105 (q := 108) rfl (by simp [Value.category]) ⟨Nat.zero_le _, Nat.zero_le _⟩ ?_
    refine sp_X6_isTurn (fun ct => ?_) (fun ct => ?_)
    · skip
      refine mh_if_ne dX6_photograph_108 (tgt := 114) (q := 111) rfl rfl (fun _ => ?_) (fun hh => False.elim (by revert hh; decide))
      refine mh_iinc_7 (v := 5) dX6_photograph_114 (q := 117) rfl (by decide) ?_
      refine mh_goto dX6_photograph_117 (tgt := 76) rfl ?_
      rw [mh_s5]
      exact ih (t + 1) (by omega) (fun s hs2 => by
        rcases Nat.lt_or_ge s t with q | q
        · exact hs s q
        · obtain rfl : s = t := by omega
          exact ct)
    · skip
      refine mh_if_ne dX6_photograph_108 (tgt := 114) (q := 111) rfl rfl (fun hh => False.elim (by revert hh; decide)) (fun _ => ?_)
      refine mh_bipush (v := (-2)) dX6_photograph_111 (q := 113) rfl (by decide) ?_
      refine mh_ireturn dX6_photograph_113 rfl rfl ?_
      exact hz (fun z => ct (z t (by omega)))
set_option maxHeartbeats 4000000 in
set_option maxRecDepth 100000 in
theorem sp_X6_photograph {l : Launch} {K : mhX} {Φ : mhQ} {S : List mhS} {F : mhF} {I : mhI} {J : mhJ} {P : mhP} (h6 : mhKX6 S) (hP : mhSh S F P) {cl : Nat → Nat → Int32} (hcl : ∀ j, j < 4 → ¬ F (13 + 2 * j) 1 = -9 → ∀ c, c < 60 → I (13 + 2 * j + 1) (nI c) = cl j c) {k so i n : Int32} (hn : ¬ mhSc k → Φ (some (.int (-1))) S (mhUF F 0 12 0) I J P) (hb : mhSc k → ¬ mhSo so → Φ (some (.int (-2))) S (mhUF F 0 12 0) I J P) (hf : ∀ j, j < 4 → k = nI j → mhSo so → ¬ (mhAg (F (13 + 2 * j) 1) (F (13 + 2 * j) 2) so i n) = 0 → Φ (some (.int (-10 - (mhAg (F (13 + 2 * j) 1) (F (13 + 2 * j) 2) so i n)))) S (mhUF F 0 12 (mhAg (F (13 + 2 * j) 1) (F (13 + 2 * j) 2) so i n)) I J P) (hz : ∀ j ii, j < 4 → k = nI j → mhSo so → (mhAg (F (13 + 2 * j) 1) (F (13 + 2 * j) 2) so i n) = 0 → i = nI ii → ¬ phOk (cl j) ii n → Φ (some (.int (-2))) S (mhUF F 0 12 0) I J P) (ht : ∀ j ii nn, j < 4 → k = nI j → mhSo so → (mhAg (F (13 + 2 * j) 1) (F (13 + 2 * j) 2) so i n) = 0 → i = nI ii → n = nI nn → phOk (cl j) ii n → nn ≤ 30 → ∀ I2 : mhI, (∀ x, x < 30 → I2 5 (nI x) = if x < nn then cl j (ii + x) else I 5 (nI x)) → (∀ b y, b ≠ 5 → I2 b y = I b y) → Φ (some (.int (nI (nn / 5)))) S (mhUF (mhUF F 0 12 0) 0 10 (nI (nn / 5))) I2 J P) : mhOk l K mX6_photograph [.ref 0, .int k, .int so, .int i, .int n] S F I J P Φ := by
  refine mhOk.of (by decide) (by decide) rfl (Nat.le_of_ble_eq_true rfl) ?_
  refine mh_aload_0 dX6_photograph_0 (q := 1) rfl ?_
  refine mh_iconst_0 dX6_photograph_1 (q := 2) rfl ?_
  refine mh_putI (Or.inl fw_X6_65) rfl rfl dX6_photograph_2 (q := 5) rfl (shX6_0 h6) rfl ?_
  refine mh_aload_0 dX6_photograph_5 (q := 6) rfl ?_
  refine mh_iload_1 dX6_photograph_6 (q := 7) rfl ?_
  refine mh_callV1 ca_X6_photograph_7 (shX6_0 h6) (q := 10) rfl (by simp [Value.category]) ⟨Nat.zero_le _, Nat.zero_le _⟩ ?_
  refine sp_X6_sheetAt h6 hP (fun hk => ?_) (fun j hj ej hk => ?_)
  · skip
    refine mh_astoreN_5 dX6_photograph_10 (q := 12) rfl ?_
    refine mh_aloadN_5 dX6_photograph_12 (q := 14) rfl ?_
    refine mh_ifnonnullN dX6_photograph_14 (q := 17) rfl ?_
    refine mh_iconst_m1 dX6_photograph_17 (q := 18) rfl ?_
    refine mh_ireturn dX6_photograph_18 rfl rfl ?_
    exact hn hk
  · skip
    subst ej
    refine mh_astore_5 dX6_photograph_10 (q := 12) rfl ?_
    refine mh_aload_5 dX6_photograph_12 (q := 14) rfl ?_
    refine mh_ifnonnullR dX6_photograph_14 (tgt := 19) rfl ?_
    refine mh_iload_2 dX6_photograph_19 (q := 20) rfl ?_
    refine mh_callS1 ca_X6_photograph_20 (q := 23) rfl (by simp [Value.category]) ⟨Nat.zero_le _, Nat.zero_le _⟩ ?_
    refine sp_X6_isSort (fun cs => ?_) (fun cs => ?_)
    · skip
      refine mh_if_ne dX6_photograph_23 (tgt := 29) (q := 26) rfl rfl (fun _ => ?_) (fun hh => False.elim (by revert hh; decide))
      refine mh_aload_5 dX6_photograph_29 (q := 31) rfl ?_
      refine mh_iload_2 dX6_photograph_31 (q := 32) rfl ?_
      refine mh_iload_3 dX6_photograph_32 (q := 33) rfl ?_
      refine mh_iload_4 dX6_photograph_33 (q := 35) rfl ?_
      refine mh_callV3 ca_X6_photograph_35 (shX3_0 (hP j hj).2.1) (q := 38) rfl (by simp [Value.category]) ⟨Nat.zero_le _, Nat.zero_le _⟩ ?_
      refine sp_X3_faultOfRow (hP j hj).2.1 ?_
      rw [show mhUF F 0 12 0 (13 + 2 * j) 1 = F (13 + 2 * j) 1 from mhUF_ne (by omega)]
      rw [show mhUF F 0 12 0 (13 + 2 * j) 2 = F (13 + 2 * j) 2 from mhUF_ne (by omega)]
      refine mh_istore_6 dX6_photograph_38 (q := 40) rfl ?_
      refine mh_iload_6 dX6_photograph_40 (q := 42) rfl ?_
      refine mh_if_eq dX6_photograph_42 (tgt := 52) (q := 45) rfl rfl (fun c42 => ?_) (fun c42 => ?_)
      · skip
        have ag0 := mhAg_0 c42 (hP j hj).2.2.1 (hP j hj).2.2.2
        obtain ⟨hs9, ii, nn0, hin, rfl, rfl⟩ := ag0
        refine mh_iload_4 dX6_photograph_52 (q := 54) rfl ?_
        refine mh_iconst_5 dX6_photograph_54 (q := 55) rfl ?_
        refine mh_bipush (v := 30) dX6_photograph_55 (q := 57) rfl (by decide) ?_
        refine mh_callS3 ca_X6_photograph_57 (q := 60) rfl (by simp [Value.category]) ⟨Nat.zero_le _, Nat.zero_le _⟩ ?_
        refine sp_X6_within (fun cw => ?_) (fun cw => ?_)
        · skip
          refine mh_if_eq dX6_photograph_60 (tgt := 70) (q := 63) rfl rfl (fun hh => False.elim (by revert hh; decide)) (fun _ => ?_)
          refine mh_iload_4 dX6_photograph_63 (q := 65) rfl ?_
          refine mh_iconst_5 dX6_photograph_65 (q := 66) rfl ?_
          refine mh_irem dX6_photograph_66 (q := 67) rfl (by decide) ?_
          rw [mh_r5 (by omega)]
          refine mh_if_eq dX6_photograph_67 (tgt := 73) (q := 70) rfl rfl (fun c67 => ?_) (fun c67 => ?_)
          · skip
            refine mh_iconst_0 dX6_photograph_73 (q := 74) rfl ?_
            refine mh_istore_7 dX6_photograph_74 (q := 76) rfl ?_
            have b1 : 5 ≤ nn0 := (nI_leI (a := 5) (by decide) (by omega)).mp cw.1
            have b2 : nn0 ≤ 30 := (nI_leI (b := 30) (by omega) (by decide)).mp cw.2
            rw [show (0 : Int32) = nI 0 from rfl, nI_eq (by omega) (by decide)] at c67
            exact lp_X6_photograph (kc := mX6_photograph.2.2.2.2.cells) (ks := mX6_photograph.2.2.2.2.slots) (F0 := F) h6 hP hj (hcl j hj hs9) hin b1 b2 c67 _ (fun z => hz j ii hj rfl cs c42 rfl (fun ⟨nn, e, a1, a2, a3, a4⟩ => z (by
              have e2 : nn0 = nn := (nI_eq (by omega) (by omega)).mp e
              subst e2
              exact a4))) (fun I2 z1 z2 z3 => ht j ii nn0 hj rfl cs c42 rfl rfl ⟨nn0, rfl, b1, b2, c67, z1⟩ b2 I2 z2 z3) (nn0 / 5) 0 (by omega) (fun s hs => absurd hs (Nat.not_lt_zero s))
          · skip
            refine mh_bipush (v := (-2)) dX6_photograph_70 (q := 72) rfl (by decide) ?_
            refine mh_ireturn dX6_photograph_72 rfl rfl ?_
            refine hz j ii hj rfl cs c42 rfl (fun ⟨nn, e, a1, a2, a3, a4⟩ => ?_)
            have e2 : nn0 = nn := (nI_eq (by omega) (by omega)).mp e
            subst e2
            first
            | (rw [a3] at c67; exact c67 rfl)
            | exact cw ⟨(nI_leI (a := 5) (by decide) (by omega)).mpr a1, (nI_leI (b := 30) (by omega) (by decide)).mpr a2⟩
        · skip
          refine mh_if_eq dX6_photograph_60 (tgt := 70) (q := 63) rfl rfl (fun _ => ?_) (fun hh => False.elim (by revert hh; decide))
          refine mh_bipush (v := (-2)) dX6_photograph_70 (q := 72) rfl (by decide) ?_
          refine mh_ireturn dX6_photograph_72 rfl rfl ?_
          refine hz j ii hj rfl cs c42 rfl (fun ⟨nn, e, a1, a2, a3, a4⟩ => ?_)
          have e2 : nn0 = nn := (nI_eq (by omega) (by omega)).mp e
          subst e2
          first
          | (rw [a3] at c67; exact c67 rfl)
          | exact cw ⟨(nI_leI (a := 5) (by decide) (by omega)).mpr a1, (nI_leI (b := 30) (by omega) (by decide)).mpr a2⟩
      · skip
        refine mh_aload_0 dX6_photograph_45 (q := 46) rfl ?_
        refine mh_iload_6 dX6_photograph_46 (q := 48) rfl ?_
        refine mh_callV1 ca_X6_photograph_48 (shX6_0 h6) (q := 51) rfl (by simp [Value.category]) ⟨Nat.zero_le _, Nat.zero_le _⟩ ?_
        refine sp_X6_faulted h6 ?_
        rw [mhUF_uu]
        refine mh_ireturn dX6_photograph_51 rfl rfl ?_
        exact hf j hj rfl cs c42
    · skip
      refine mh_if_ne dX6_photograph_23 (tgt := 29) (q := 26) rfl rfl (fun hh => False.elim (by revert hh; decide)) (fun _ => ?_)
      refine mh_bipush (v := (-2)) dX6_photograph_26 (q := 28) rfl (by decide) ?_
      refine mh_ireturn dX6_photograph_28 rfl rfl ?_
      exact hb hk cs
set_option maxHeartbeats 4000000 in
set_option maxRecDepth 100000 in
theorem lp_X7_photoB {l : Launch} {K : mhX} {kc ks : Nat} {Φ : mhQ} {S : List mhS} {F : mhF} {I0 : mhI} {J : mhJ} {P : mhP} (h7 : mhKX7 S) {cl : Nat → Int32} {j ii nn : Nat} (hj : j < 4) (hcl : ∀ c, c < 60 → I0 24 (nI (60 * j + c)) = cl c) (hin : ii + nn ≤ 60) (h5 : 5 ≤ nn) (h30 : nn ≤ 30) (hm : nn % 5 = 0) {k so : Int32} (o5 : Option Value) (ht : ∀ I2 : mhI, (∀ x, x < 30 → I2 37 (nI x) = if x < nn then cl (ii + x) else I0 37 (nI x)) → (∀ b y, b ≠ 37 → I2 b y = I0 b y) → Φ (some (.int (nI (nn / 5)))) S (mhUF F 21 26 (nI (nn / 5))) I2 J P) : ∀ (m c : Nat) (I : mhI), c + m = nn → (∀ x, x < 30 → I 37 (nI x) = if x < c then cl (ii + x) else I0 37 (nI x)) → (∀ b y, b ≠ 37 → I b y = I0 b y) → mhV l K mX7_photograph kc ks Φ 126 [some (.ref 21), some (.int k), some (.int so), some (.int (nI ii)), some (.int (nI nn)), o5, some (.int (nI (60 * j + ii))), some (.int (nI c))] [] S F I J P := by
  intro m
  induction m with
  | zero =>
    intro c I e h1 h2
    obtain rfl : c = nn := by omega
    refine mh_iload_7 dX7_photograph_126 (q := 128) rfl ?_
    refine mh_iload_4 dX7_photograph_128 (q := 130) rfl ?_
    refine mh_icmp_ge dX7_photograph_130 (tgt := 156) (q := 133) rfl rfl (fun _ => ?_) (fun hh => absurd (nI_le (Nat.le_refl _) (by omega)) hh)
    refine mh_aload_0 dX7_photograph_156 (q := 157) rfl ?_
    refine mh_iload_4 dX7_photograph_157 (q := 159) rfl ?_
    refine mh_iconst_5 dX7_photograph_159 (q := 160) rfl ?_
    refine mh_idiv dX7_photograph_160 (q := 161) rfl (by decide) ?_
    rw [mh_d5 (by omega)]
    refine mh_putI (Or.inl fw_X7_216) rfl rfl dX7_photograph_161 (q := 164) rfl (shX7_0 h7) rfl ?_
    refine mh_aload_0 dX7_photograph_164 (q := 165) rfl ?_
    refine mh_getI fl_X7_216 dX7_photograph_165 (q := 168) rfl (shX7_0 h7) rfl ?_
    rw [mhUF_at]
    refine mh_ireturn dX7_photograph_168 rfl rfl ?_
    exact ht I h1 h2
  | succ m ih =>
    intro c I e h1 h2
    refine mh_iload_7 dX7_photograph_126 (q := 128) rfl ?_
    refine mh_iload_4 dX7_photograph_128 (q := 130) rfl ?_
    refine mh_icmp_ge dX7_photograph_130 (tgt := 156) (q := 133) rfl rfl (fun hh => absurd hh (nI_ge (by omega) (by omega))) (fun _ => ?_)
    refine mh_aload_0 dX7_photograph_133 (q := 134) rfl ?_
    refine mh_getR fl_X7_56 dX7_photograph_134 (q := 137) rfl (shX7_0 h7) rfl ?_
    refine mh_iload_7 dX7_photograph_137 (q := 139) rfl ?_
    refine mh_aload_0 dX7_photograph_139 (q := 140) rfl ?_
    refine mh_getR fl_X7_16 dX7_photograph_140 (q := 143) rfl (shX7_0 h7) rfl ?_
    refine mh_iload_6 dX7_photograph_143 (q := 145) rfl ?_
    refine mh_iload_7 dX7_photograph_145 (q := 147) rfl ?_
    refine mh_iadd dX7_photograph_147 (q := 148) rfl ?_
    rw [nI_add]
    refine mh_iald dX7_photograph_148 (q := 149) rfl (shX7_3 h7) (vp_in_nI (by omega) (by decide)) ?_
    rw [h2 24 _ (by decide), Nat.add_assoc, hcl _ (by omega)]
    refine mh_iast dX7_photograph_149 (q := 150) rfl (shX7_16 h7) (by decide) (vp_in_nI (by omega) (by decide)) ?_
    refine mh_iinc_7 (v := 1) dX7_photograph_150 (q := 153) rfl (by decide) ?_
    refine mh_goto dX7_photograph_153 (tgt := 126) rfl ?_
    rw [nI_1]
    refine ih (c + 1) _ (by omega) (fun x hx => ?_) (fun b y hb => (mhUI_ne hb).trans (h2 b y hb))
    rw [mhUI_at (by omega) (by omega)]
    by_cases e : x = c
    · subst e
      rw [if_pos ⟨rfl, rfl⟩, if_pos (by omega)]
    · rw [if_neg (fun z => e z.2), h1 x hx]
      by_cases e2 : x < c
      · rw [if_pos e2, if_pos (by omega)]
      · rw [if_neg e2, if_neg (by omega)]
set_option maxHeartbeats 4000000 in
set_option maxRecDepth 100000 in
theorem lp_X7_photoA {l : Launch} {K : mhX} {kc ks : Nat} {Φ : mhQ} {S : List mhS} {F : mhF} {I : mhI} {J : mhJ} {P : mhP} (h7 : mhKX7 S) {cl : Nat → Int32} {j ii nn : Nat} (hj : j < 4) (hcl : ∀ c, c < 60 → I 24 (nI (60 * j + c)) = cl c) (hin : ii + nn ≤ 60) (h5 : 5 ≤ nn) (h30 : nn ≤ 30) (hm : nn % 5 = 0) {k so : Int32} (o5 : Option Value) (hz : ¬ (∀ t, 5 * t < nn → mhTurn (cl (ii + 5 * t)) (cl (ii + 5 * t + 1))) → Φ (some (.int (-2))) S F I J P) (ht : (∀ t, 5 * t < nn → mhTurn (cl (ii + 5 * t)) (cl (ii + 5 * t + 1))) → ∀ o5 : Option Value, mhV l K mX7_photograph kc ks Φ 126 [some (.ref 21), some (.int k), some (.int so), some (.int (nI ii)), some (.int (nI nn)), o5, some (.int (nI (60 * j + ii))), some (.int (nI 0))] [] S F I J P) : ∀ (m t : Nat), 5 * (t + m) = nn → (∀ s, s < t → mhTurn (cl (ii + 5 * s)) (cl (ii + 5 * s + 1))) → mhV l K mX7_photograph kc ks Φ 79 [some (.ref 21), some (.int k), some (.int so), some (.int (nI ii)), some (.int (nI nn)), o5, some (.int (nI (60 * j + ii))), some (.int (nI (5 * t)))] [] S F I J P := by
  intro m
  induction m with
  | zero =>
    intro t e hs
    have e0 : 5 * t = nn := by omega
    have hal : ∀ t, 5 * t < nn → mhTurn (cl (ii + 5 * t)) (cl (ii + 5 * t + 1)) := fun s h => hs s (by omega)
    refine mh_iload_7 dX7_photograph_79 (q := 81) rfl ?_
    refine mh_iload_4 dX7_photograph_81 (q := 83) rfl ?_
    refine mh_icmp_ge dX7_photograph_83 (tgt := 123) (q := 86) rfl rfl (fun _ => ?_) (fun hh => absurd (show nI nn ≤ nI (5 * t) from nI_le (by omega) (by omega)) hh)
    refine mh_iconst_0 dX7_photograph_123 (q := 124) rfl ?_
    refine mh_istore_7 dX7_photograph_124 (q := 126) rfl ?_
    exact ht hal _
  | succ m ih =>
    intro t e hs
    refine mh_iload_7 dX7_photograph_79 (q := 81) rfl ?_
    refine mh_iload_4 dX7_photograph_81 (q := 83) rfl ?_
    refine mh_icmp_ge dX7_photograph_83 (tgt := 123) (q := 86) rfl rfl (fun hh => absurd hh (show ¬ nI nn ≤ nI (5 * t) from nI_ge (by omega) (by omega))) (fun _ => ?_)
    refine mh_aload_0 dX7_photograph_86 (q := 87) rfl ?_
    refine mh_getR fl_X7_16 dX7_photograph_87 (q := 90) rfl (shX7_0 h7) rfl ?_
    refine mh_iload_6 dX7_photograph_90 (q := 92) rfl ?_
    refine mh_iload_7 dX7_photograph_92 (q := 94) rfl ?_
    refine mh_iadd dX7_photograph_94 (q := 95) rfl ?_
    rw [nI_add, Nat.add_assoc]
    refine mh_iald dX7_photograph_95 (q := 96) rfl (shX7_3 h7) (vp_in_nI (by omega) (by decide)) ?_
    rw [hcl _ (by omega)]
    refine mh_aload_0 dX7_photograph_96 (q := 97) rfl ?_
    refine mh_getR fl_X7_16 dX7_photograph_97 (q := 100) rfl (shX7_0 h7) rfl ?_
    refine mh_iload_6 dX7_photograph_100 (q := 102) rfl ?_
    refine mh_iload_7 dX7_photograph_102 (q := 104) rfl ?_
    refine mh_iadd dX7_photograph_104 (q := 105) rfl ?_
    rw [nI_add]
    refine mh_iconst_1 dX7_photograph_105 (q := 106) rfl ?_
    refine mh_iadd dX7_photograph_106 (q := 107) rfl ?_
    rw [nI_1, Nat.add_assoc, Nat.add_assoc]
    refine mh_iald dX7_photograph_107 (q := 108) rfl (shX7_3 h7) (vp_in_nI (by omega) (by decide)) ?_
    rw [hcl _ (by omega), ← Nat.add_assoc]
    refine mh_callS2 ca_X7_photograph_108 (q := 111) rfl (by simp [Value.category]) ⟨Nat.zero_le _, Nat.zero_le _⟩ ?_
    refine sp_X7_isTurn (fun ct => ?_) (fun ct => ?_)
    · skip
      refine mh_if_ne dX7_photograph_111 (tgt := 117) (q := 114) rfl rfl (fun _ => ?_) (fun hh => False.elim (by revert hh; decide))
      refine mh_iinc_7 (v := 5) dX7_photograph_117 (q := 120) rfl (by decide) ?_
      refine mh_goto dX7_photograph_120 (tgt := 79) rfl ?_
      rw [mh_s5]
      exact ih (t + 1) (by omega) (fun s hs2 => by
        rcases Nat.lt_or_ge s t with q | q
        · exact hs s q
        · obtain rfl : s = t := by omega
          exact ct)
    · skip
      refine mh_if_ne dX7_photograph_111 (tgt := 117) (q := 114) rfl rfl (fun hh => False.elim (by revert hh; decide)) (fun _ => ?_)
      refine mh_bipush (v := (-2)) dX7_photograph_114 (q := 116) rfl (by decide) ?_
      refine mh_ireturn dX7_photograph_116 rfl rfl ?_
      exact hz (fun z => ct (z t (by omega)))
set_option maxHeartbeats 4000000 in
set_option maxRecDepth 100000 in
theorem sp_X7_photograph {l : Launch} {K : mhX} {Φ : mhQ} {S : List mhS} {F : mhF} {I : mhI} {J : mhJ} {P : mhP} (h7 : mhKX7 S) (hP : mhSm I) {cl : Nat → Nat → Int32} (hcl : ∀ j, j < 4 → ¬ I 22 (nI j) = -9 → ∀ c, c < 60 → I 24 (nI (60 * j + c)) = cl j c) {k so i n : Int32} (hn : ¬ mhSc k → Φ (some (.int (-1))) S (mhUF F 21 0 0) I J P) (hb : mhSc k → ¬ mhSo so → Φ (some (.int (-2))) S (mhUF F 21 0 0) I J P) (hf : ∀ j, j < 4 → k = nI j → mhSo so → ¬ (mhAg (I 22 (nI j)) (I 23 (nI j)) so i n) = 0 → Φ (some (.int (-10 - (mhAg (I 22 (nI j)) (I 23 (nI j)) so i n)))) S (mhUF F 21 0 (mhAg (I 22 (nI j)) (I 23 (nI j)) so i n)) I J P) (hz : ∀ j ii, j < 4 → k = nI j → mhSo so → (mhAg (I 22 (nI j)) (I 23 (nI j)) so i n) = 0 → i = nI ii → ¬ phOk (cl j) ii n → Φ (some (.int (-2))) S (mhUF F 21 0 0) I J P) (ht : ∀ j ii nn, j < 4 → k = nI j → mhSo so → (mhAg (I 22 (nI j)) (I 23 (nI j)) so i n) = 0 → i = nI ii → n = nI nn → phOk (cl j) ii n → nn ≤ 30 → ∀ I2 : mhI, (∀ x, x < 30 → I2 37 (nI x) = if x < nn then cl j (ii + x) else I 37 (nI x)) → (∀ b y, b ≠ 37 → I2 b y = I b y) → Φ (some (.int (nI (nn / 5)))) S (mhUF (mhUF F 21 0 0) 21 26 (nI (nn / 5))) I2 J P) : mhOk l K mX7_photograph [.ref 21, .int k, .int so, .int i, .int n] S F I J P Φ := by
  refine mhOk.of (by decide) (by decide) rfl (Nat.le_of_ble_eq_true rfl) ?_
  refine mh_aload_0 dX7_photograph_0 (q := 1) rfl ?_
  refine mh_iconst_0 dX7_photograph_1 (q := 2) rfl ?_
  refine mh_putI (Or.inl fw_X7_102) rfl rfl dX7_photograph_2 (q := 5) rfl (shX7_0 h7) rfl ?_
  refine mh_iload_1 dX7_photograph_5 (q := 6) rfl ?_
  refine mh_callS1 ca_X7_photograph_6 (q := 9) rfl (by simp [Value.category]) ⟨Nat.zero_le _, Nat.zero_le _⟩ ?_
  refine sp_X7_isSheet (fun hk => ?_) (fun hk => ?_)
  · skip
    refine mh_if_ne dX7_photograph_9 (tgt := 14) (q := 12) rfl rfl (fun _ => ?_) (fun hh => False.elim (by revert hh; decide))
    refine mh_iload_2 dX7_photograph_14 (q := 15) rfl ?_
    refine mh_callS1 ca_X7_photograph_15 (q := 18) rfl (by simp [Value.category]) ⟨Nat.zero_le _, Nat.zero_le _⟩ ?_
    refine sp_X7_isSort (fun cs => ?_) (fun cs => ?_)
    · skip
      refine mh_if_ne dX7_photograph_18 (tgt := 24) (q := 21) rfl rfl (fun _ => ?_) (fun hh => False.elim (by revert hh; decide))
      obtain ⟨j, hj, rfl⟩ := mh_scj hk
      refine mh_aload_0 dX7_photograph_24 (q := 25) rfl ?_
      refine mh_iload_1 dX7_photograph_25 (q := 26) rfl ?_
      refine mh_iload_2 dX7_photograph_26 (q := 27) rfl ?_
      refine mh_iload_3 dX7_photograph_27 (q := 28) rfl ?_
      refine mh_iload_4 dX7_photograph_28 (q := 30) rfl ?_
      refine mh_callV4 ca_X7_photograph_30 (shX7_0 h7) (q := 33) rfl (by simp [Value.category]) ⟨Nat.zero_le _, Nat.zero_le _⟩ ?_
      refine sp_X7_against h7 (mh_sc4 hk) ?_
      refine mh_istore_5 dX7_photograph_33 (q := 35) rfl ?_
      refine mh_iload_5 dX7_photograph_35 (q := 37) rfl ?_
      refine mh_if_eq dX7_photograph_37 (tgt := 47) (q := 40) rfl rfl (fun c37 => ?_) (fun c37 => ?_)
      · skip
        have ag0 := mhAg_0 c37 (hP j hj).1 (hP j hj).2
        obtain ⟨hs9, ii, nn0, hin, rfl, rfl⟩ := ag0
        refine mh_iload_4 dX7_photograph_47 (q := 49) rfl ?_
        refine mh_iconst_5 dX7_photograph_49 (q := 50) rfl ?_
        refine mh_bipush (v := 30) dX7_photograph_50 (q := 52) rfl (by decide) ?_
        refine mh_callS3 ca_X7_photograph_52 (q := 55) rfl (by simp [Value.category]) ⟨Nat.zero_le _, Nat.zero_le _⟩ ?_
        refine sp_X7_within (fun cw => ?_) (fun cw => ?_)
        · skip
          refine mh_if_eq dX7_photograph_55 (tgt := 65) (q := 58) rfl rfl (fun hh => False.elim (by revert hh; decide)) (fun _ => ?_)
          refine mh_iload_4 dX7_photograph_58 (q := 60) rfl ?_
          refine mh_iconst_5 dX7_photograph_60 (q := 61) rfl ?_
          refine mh_irem dX7_photograph_61 (q := 62) rfl (by decide) ?_
          rw [mh_r5 (by omega)]
          refine mh_if_eq dX7_photograph_62 (tgt := 68) (q := 65) rfl rfl (fun c67 => ?_) (fun c67 => ?_)
          · skip
            refine mh_bipush (v := 60) dX7_photograph_68 (q := 70) rfl (by decide) ?_
            refine mh_iload_1 dX7_photograph_70 (q := 71) rfl ?_
            refine mh_imul dX7_photograph_71 (q := 72) rfl ?_
            refine mh_iload_3 dX7_photograph_72 (q := 73) rfl ?_
            refine mh_iadd dX7_photograph_73 (q := 74) rfl ?_
            rw [mh_e60]
            refine mh_istore_6 dX7_photograph_74 (q := 76) rfl ?_
            refine mh_iconst_0 dX7_photograph_76 (q := 77) rfl ?_
            refine mh_istore_7 dX7_photograph_77 (q := 79) rfl ?_
            have b1 : 5 ≤ nn0 := (nI_leI (a := 5) (by decide) (by omega)).mp cw.1
            have b2 : nn0 ≤ 30 := (nI_leI (b := 30) (by omega) (by decide)).mp cw.2
            rw [show (0 : Int32) = nI 0 from rfl, nI_eq (by omega) (by decide)] at c67
            exact lp_X7_photoA (kc := mX7_photograph.2.2.2.2.cells) (ks := mX7_photograph.2.2.2.2.slots) h7 hj (hcl j hj hs9) hin b1 b2 c67 _ (fun z => hz j ii hj rfl cs c37 rfl (fun ⟨nn, e, a1, a2, a3, a4⟩ => z (by
              have e2 : nn0 = nn := (nI_eq (by omega) (by omega)).mp e
              subst e2
              exact a4))) (fun z1 o5 => lp_X7_photoB (kc := mX7_photograph.2.2.2.2.cells) (ks := mX7_photograph.2.2.2.2.slots) h7 hj (hcl j hj hs9) hin b1 b2 c67 o5 (fun I2 z2 z3 => ht j ii nn0 hj rfl cs c37 rfl rfl ⟨nn0, rfl, b1, b2, c67, z1⟩ b2 I2 z2 z3) nn0 0 I (Nat.zero_add _) (fun x hx => (if_neg (Nat.not_lt_zero x)).symm) (fun _ _ _ => rfl)) (nn0 / 5) 0 (by omega) (fun s hs => absurd hs (Nat.not_lt_zero s))
          · skip
            refine mh_bipush (v := (-2)) dX7_photograph_65 (q := 67) rfl (by decide) ?_
            refine mh_ireturn dX7_photograph_67 rfl rfl ?_
            refine hz j ii hj rfl cs c37 rfl (fun ⟨nn, e, a1, a2, a3, a4⟩ => ?_)
            have e2 : nn0 = nn := (nI_eq (by omega) (by omega)).mp e
            subst e2
            first
            | (rw [a3] at c67; exact c67 rfl)
            | exact cw ⟨(nI_leI (a := 5) (by decide) (by omega)).mpr a1, (nI_leI (b := 30) (by omega) (by decide)).mpr a2⟩
        · skip
          refine mh_if_eq dX7_photograph_55 (tgt := 65) (q := 58) rfl rfl (fun _ => ?_) (fun hh => False.elim (by revert hh; decide))
          refine mh_bipush (v := (-2)) dX7_photograph_65 (q := 67) rfl (by decide) ?_
          refine mh_ireturn dX7_photograph_67 rfl rfl ?_
          refine hz j ii hj rfl cs c37 rfl (fun ⟨nn, e, a1, a2, a3, a4⟩ => ?_)
          have e2 : nn0 = nn := (nI_eq (by omega) (by omega)).mp e
          subst e2
          first
          | (rw [a3] at c67; exact c67 rfl)
          | exact cw ⟨(nI_leI (a := 5) (by decide) (by omega)).mpr a1, (nI_leI (b := 30) (by omega) (by decide)).mpr a2⟩
      · skip
        refine mh_aload_0 dX7_photograph_40 (q := 41) rfl ?_
        refine mh_iload_5 dX7_photograph_41 (q := 43) rfl ?_
        refine mh_callV1 ca_X7_photograph_43 (shX7_0 h7) (q := 46) rfl (by simp [Value.category]) ⟨Nat.zero_le _, Nat.zero_le _⟩ ?_
        refine sp_X7_fails h7 ?_
        rw [mhUF_uu]
        refine mh_ireturn dX7_photograph_46 rfl rfl ?_
        exact hf j hj rfl cs c37
    · skip
      refine mh_if_ne dX7_photograph_18 (tgt := 24) (q := 21) rfl rfl (fun hh => False.elim (by revert hh; decide)) (fun _ => ?_)
      refine mh_bipush (v := (-2)) dX7_photograph_21 (q := 23) rfl (by decide) ?_
      refine mh_ireturn dX7_photograph_23 rfl rfl ?_
      exact hb hk cs
  · skip
    refine mh_if_ne dX7_photograph_9 (tgt := 14) (q := 12) rfl rfl (fun hh => False.elim (by revert hh; decide)) (fun _ => ?_)
    refine mh_iconst_m1 dX7_photograph_12 (q := 13) rfl ?_
    refine mh_ireturn dX7_photograph_13 rfl rfl ?_
    exact hn hk
