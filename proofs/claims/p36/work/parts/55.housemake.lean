/-! texts of houses; the class's house -/
def rdW (x : Int32) : Nat := (x - 48).toNatClampNeg
def htL (c : Nat → Int32) : Nat := gSides (rdW (c 1)) (rdW (c 3))
def knd (x : Int32) : Int32 := if x = 109 then 0 else if x = 103 then 1 else if x = 111 then 2 else -9
def gdA (c : Nat → Int32) (t : Nat) : Prop := (t = 0 → c 0 = 119) ∧ (t = 1 → 49 ≤ c 1 ∧ c 1 ≤ 52) ∧ (t = 2 → c 2 = 104) ∧ (t = 3 → 49 ≤ c 3 ∧ c 3 ≤ 51) ∧ (t = 4 → c 4 = 59) ∧ (5 ≤ t → t < 5 + htL c ∧ ¬ knd (c t) = -9)
def ffW (c : Nat → Int32) (n : Nat) : Nat := if n < 5 then 5 else 5 + htL c
def ffA (c : Nat → Int32) (n : Nat) (y : Int32) : Prop := (∃ t, t < n ∧ ¬ gdA c t ∧ (∀ s, s < t → gdA c s) ∧ y = nI t) ∨ ((∀ s, s < n → gdA c s) ∧ n < ffW c n ∧ y = nI n) ∨ ((∀ s, s < n → gdA c s) ∧ ffW c n ≤ n ∧ y = -9)
theorem ffA_un {c : Nat → Int32} {n : Nat} {y y' : Int32} (h1 : ffA c n y) (h2 : ffA c n y') : y = y' := by
  rcases h1 with ⟨t, a1, a2, a3, a4⟩ | ⟨a1, a2, a3⟩ | ⟨a1, a2, a3⟩ <;> rcases h2 with ⟨s, b1, b2, b3, b4⟩ | ⟨b1, b2, b3⟩ | ⟨b1, b2, b3⟩
  · have : t = s := by
      rcases Nat.lt_trichotomy t s with q | q | q
      · exact absurd (b3 t q) a2
      · exact q
      · exact absurd (a3 s q) b2
    rw [a4, b4, this]
  · exact absurd (b1 t a1) a2
  · exact absurd (b1 t a1) a2
  · exact absurd (a1 s b1) b2
  · rw [a3, b3]
  · omega
  · exact absurd (a1 s b1) b2
  · omega
  · rw [a3, b3]
theorem rdW_ok {x : Int32} {m : Int32} {k : Nat} (hm : (m - 48).toInt = k) (h1 : 49 ≤ x) (h2 : x ≤ m) (hm2 : m ≤ 100) : x - 48 = nI (rdW x) ∧ 1 ≤ rdW x ∧ rdW x ≤ k := by
  obtain ⟨j, hj, e⟩ := mh_of2 (x := x - 48) (M := m - 48) (n := k) hm (by grind) (by grind)
  have hk : k < 1000 := by
    have : (m - 48).toInt ≤ 52 := by
      have q : m - 48 ≤ 52 := by grind
      have := Int32.le_iff_toInt_le.mp q
      exact this
    omega
  have e2 : rdW x = j := by unfold rdW; rw [e, nI_clamp (by omega)]
  rw [e2]
  refine ⟨e, ?_, by omega⟩
  have : (1 : Int32) ≤ nI j := by rw [← e]; grind
  exact (nI_leI (a := 1) (by decide) (by omega)).mp this
theorem gd_1 {c : Nat → Int32} (h : gdA c 1) : c 1 - 48 = nI (rdW (c 1)) ∧ 1 ≤ rdW (c 1) ∧ rdW (c 1) ≤ 4 := rdW_ok (m := 52) (k := 4) rfl (h.2.1 rfl).1 (h.2.1 rfl).2 (by decide)
theorem gd_3 {c : Nat → Int32} (h : gdA c 3) : c 3 - 48 = nI (rdW (c 3)) ∧ 1 ≤ rdW (c 3) ∧ rdW (c 3) ≤ 3 := rdW_ok (m := 51) (k := 3) rfl (h.2.2.2.1 rfl).1 (h.2.2.2.1 rfl).2 (by decide)
theorem gd_ok {c : Nat → Int32} (h1 : gdA c 1) (h3 : gdA c 3) : gOk (rdW (c 1)) (rdW (c 3)) := ⟨(gd_1 h1).2.1, by have := (gd_1 h1).2.2; omega, (gd_3 h3).2.1, by have := (gd_3 h3).2.2; omega⟩
/-- a text of a house -/
def htOk (c : Nat → Int32) (n : Nat) : Prop := gOk (rdW (c 1)) (rdW (c 3)) ∧ n = 5 + htL c ∧ c 1 - 48 = nI (rdW (c 1)) ∧ c 3 - 48 = nI (rdW (c 3)) ∧ ∀ k, k < htL c → ¬ knd (c (5 + k)) = -9
theorem ff_ok {c : Nat → Int32} {n : Nat} (hn : n < 1000) (h : ffA c n (-9)) : htOk c n := by
  rcases h with ⟨t, a1, a2, a3, a4⟩ | ⟨a1, a2, a3⟩ | ⟨a1, a2, a3⟩
  · exact absurd a4.symm (mh_n9 (by omega))
  · exact absurd a3.symm (mh_n9 (by omega))
  · unfold ffW at a2
    by_cases c5 : n < 5
    · rw [if_pos c5] at a2; omega
    · rw [if_neg c5] at a2
      have g1 := a1 1 (by omega)
      have g3 := a1 3 (by omega)
      have ok := gd_ok g1 g3
      have hb := gBd ok
      have hL : htL c = gSides (rdW (c 1)) (rdW (c 3)) := rfl
      have e : n = 5 + htL c := by
        rcases Nat.lt_or_eq_of_le a2 with q | q
        · have := (a1 (5 + htL c) q).2.2.2.2.2 (by omega)
          omega
        · exact q.symm
      exact ⟨ok, e, (gd_1 g1).1, (gd_3 g3).1, fun k hk => ((a1 (5 + k) (by omega)).2.2.2.2.2 (by omega)).2⟩
set_option maxHeartbeats 4000000 in
set_option maxRecDepth 100000 in
theorem sp_X6_kindOf {l : Launch} {K : mhX} {Φ : mhQ} {S : List mhS} {F : mhF} {I : mhI} {J : mhJ} {P : mhP} {x : Int32} (hΦ : Φ (some (.int (knd x))) S F I J P) : mhOk l K mX6_kindOf [.int x] S F I J P Φ := by
  refine mhOk.of (by decide) (by decide) rfl (Nat.le_of_ble_eq_true rfl) ?_
  refine mh_iload_0 dX6_kindOf_0 (q := 1) rfl ?_
  by_cases cx_103 : x = 103
  · refine mh_lsw dX6_kindOf_1 (off := 37) (tgt := 38) (by decide) (by rw [cx_103]; decide) rfl ?_
    refine mh_iconst_1 dX6_kindOf_38 (q := 39) rfl ?_
    refine mh_ireturn dX6_kindOf_39 rfl rfl ?_
    exact mh_cl hΦ (by grind [knd])
  by_cases cx_109 : x = 109
  · refine mh_lsw dX6_kindOf_1 (off := 35) (tgt := 36) (by decide) (by rw [cx_109]; decide) rfl ?_
    refine mh_iconst_0 dX6_kindOf_36 (q := 37) rfl ?_
    refine mh_ireturn dX6_kindOf_37 rfl rfl ?_
    exact mh_cl hΦ (by grind [knd])
  by_cases cx_111 : x = 111
  · refine mh_lsw dX6_kindOf_1 (off := 39) (tgt := 40) (by decide) (by rw [cx_111]; decide) rfl ?_
    refine mh_iconst_2 dX6_kindOf_40 (q := 41) rfl ?_
    refine mh_ireturn dX6_kindOf_41 rfl rfl ?_
    exact mh_cl hΦ (by grind [knd])
  refine mh_lsw dX6_kindOf_1 (off := 41) (tgt := 42) (by decide) (by have e103 : ¬ ((103 : Int) = Int32.toInt x) := fun e => cx_103 (Int32.toInt_inj.mp (e.symm.trans (by decide))); have e109 : ¬ ((109 : Int) = Int32.toInt x) := fun e => cx_109 (Int32.toInt_inj.mp (e.symm.trans (by decide))); have e111 : ¬ ((111 : Int) = Int32.toInt x) := fun e => cx_111 (Int32.toInt_inj.mp (e.symm.trans (by decide))); simp [Op.lookupswitch.offset, e103, e109, e111]) rfl ?_
  refine mh_bipush (v := (-9)) dX6_kindOf_42 (q := 44) rfl (by decide) ?_
  refine mh_ireturn dX6_kindOf_44 rfl rfl ?_
  exact mh_cl hΦ (by grind [knd])
set_option maxHeartbeats 4000000 in
set_option maxRecDepth 100000 in
theorem sp_X6_lettersOf {l : Launch} {K : mhX} {Φ : mhQ} {S : List mhS} {F : mhF} {I : mhI} {J : mhJ} {P : mhP} {b ii n : Nat} {cl : Nat → Int32} (hb : mhKX3 S b) (hin : ii + n ≤ 60) (hcl : ∀ t, t < n → I (b + 1) (nI (ii + t)) = cl t) (hn : 4 ≤ n) (e1 : cl 1 - 48 = nI (rdW (cl 1))) (e3 : cl 3 - 48 = nI (rdW (cl 3))) (hΦ : Φ (some (.int (nI (htL cl)))) S F I J P) : mhOk l K mX6_lettersOf [.ref b, .int (nI ii)] S F I J P Φ := by
  refine mhOk.of (by decide) (by decide) rfl (Nat.le_of_ble_eq_true rfl) ?_
  refine mh_aload_0 dX6_lettersOf_0 (q := 1) rfl ?_
  refine mh_getR fl_X6_102 dX6_lettersOf_1 (q := 4) rfl (shX3_0 hb) rfl ?_
  refine mh_iload_1 dX6_lettersOf_4 (q := 5) rfl ?_
  refine mh_iconst_1 dX6_lettersOf_5 (q := 6) rfl ?_
  refine mh_iadd dX6_lettersOf_6 (q := 7) rfl ?_
  rw [nI_1]
  refine mh_iald dX6_lettersOf_7 (q := 8) rfl (shX3_1 hb) (vp_in_nI (by omega) (by decide)) ?_
  rw [hcl 1 (by omega)]
  refine mh_bipush (v := 48) dX6_lettersOf_8 (q := 10) rfl (by decide) ?_
  refine mh_isub dX6_lettersOf_10 (q := 11) rfl ?_
  rw [e1]
  refine mh_aload_0 dX6_lettersOf_11 (q := 12) rfl ?_
  refine mh_getR fl_X6_102 dX6_lettersOf_12 (q := 15) rfl (shX3_0 hb) rfl ?_
  refine mh_iload_1 dX6_lettersOf_15 (q := 16) rfl ?_
  refine mh_iconst_3 dX6_lettersOf_16 (q := 17) rfl ?_
  refine mh_iadd dX6_lettersOf_17 (q := 18) rfl ?_
  rw [show nI ii + 3 = nI (ii + 3) from nI_add _ 3]
  refine mh_iald dX6_lettersOf_18 (q := 19) rfl (shX3_1 hb) (vp_in_nI (by omega) (by decide)) ?_
  rw [hcl 3 (by omega)]
  refine mh_bipush (v := 48) dX6_lettersOf_19 (q := 21) rfl (by decide) ?_
  refine mh_isub dX6_lettersOf_21 (q := 22) rfl ?_
  rw [e3]
  refine mh_callS2 ca_X6_lettersOf_22 (q := 25) rfl (by simp [Value.category]) ⟨Nat.zero_le _, Nat.zero_le _⟩ ?_
  refine sp_X6_sidesOf ?_
  refine mh_ireturn dX6_lettersOf_25 rfl rfl ?_
  exact hΦ
set_option maxHeartbeats 4000000 in
set_option maxRecDepth 100000 in
theorem sp_X6_goesOn {l : Launch} {K : mhX} {Φ : mhQ} {S : List mhS} {F : mhF} {I : mhI} {J : mhJ} {P : mhP} {b ii n : Nat} {cl : Nat → Int32} (hb : mhKX3 S b) (hin : ii + n ≤ 60) (hcl : ∀ t, t < n → I (b + 1) (nI (ii + t)) = cl t) {t : Nat} (htn : t < n) (g13 : 5 ≤ t → gdA cl 1 ∧ gdA cl 3) (ht : gdA cl t → Φ (some (.int 1)) S F I J P) (hf : ¬ gdA cl t → Φ (some (.int 0)) S F I J P) : mhOk l K mX6_goesOn [.ref b, .int (nI ii), .int (nI t)] S F I J P Φ := by
  refine mhOk.of (by decide) (by decide) rfl (Nat.le_of_ble_eq_true rfl) ?_
  refine mh_aload_0 dX6_goesOn_0 (q := 1) rfl ?_
  refine mh_getR fl_X6_102 dX6_goesOn_1 (q := 4) rfl (shX3_0 hb) rfl ?_
  refine mh_iload_1 dX6_goesOn_4 (q := 5) rfl ?_
  refine mh_iload_2 dX6_goesOn_5 (q := 6) rfl ?_
  refine mh_iadd dX6_goesOn_6 (q := 7) rfl ?_
  rw [nI_add]
  refine mh_iald dX6_goesOn_7 (q := 8) rfl (shX3_1 hb) (vp_in_nI (by omega) (by decide)) ?_
  rw [hcl t (by omega)]
  refine mh_istore_3 dX6_goesOn_8 (q := 9) rfl ?_
  refine mh_iload_2 dX6_goesOn_9 (q := 10) rfl ?_
  refine mh_tsw dX6_goesOn_10 (tgt := 98) rfl (fun c10 => ?_) (fun i10 j10 c10 => ?_)
  · skip
    replace c10 : _ < (0 : Int32) ∨ (4 : Int32) < _ := c10.imp Int32.lt_iff_toInt_lt.mpr Int32.lt_iff_toInt_lt.mpr
    have et : 5 ≤ t := by
      rcases c10 with q | q
      · exact absurd q (nI_pos (by omega))
      · have := (nI_ltI (a := 4) (by decide) (by omega)).mp q; omega
    have gg1 := g13 et
    have d1 := gd_1 gg1.1
    have d3 := gd_3 gg1.2
    have hLt : htL cl = gSides (rdW (cl 1)) (rdW (cl 3)) := rfl
    have hbd := gBd (gd_ok gg1.1 gg1.2)
    refine mh_iload_2 dX6_goesOn_98 (q := 99) rfl ?_
    refine mh_iconst_5 dX6_goesOn_99 (q := 100) rfl ?_
    refine mh_aload_0 dX6_goesOn_100 (q := 101) rfl ?_
    refine mh_iload_1 dX6_goesOn_101 (q := 102) rfl ?_
    refine mh_callS2 ca_X6_goesOn_102 (q := 105) rfl (by simp [Value.category]) ⟨Nat.zero_le _, Nat.zero_le _⟩ ?_
    refine sp_X6_lettersOf hb hin hcl (by omega) d1.1 d3.1 ?_
    refine mh_iadd dX6_goesOn_105 (q := 106) rfl ?_
    rw [show (5 : Int32) + nI (htL cl) = nI (5 + htL cl) from nI_add 5 _]
    refine mh_icmp_ge dX6_goesOn_106 (tgt := 122) (q := 109) rfl rfl (fun c106 => ?_) (fun c106 => ?_)
    · skip
      refine mh_iconst_0 dX6_goesOn_122 (q := 123) rfl ?_
      refine mh_ireturn dX6_goesOn_123 rfl rfl ?_
      exact hf (fun z => by have z5 := (z.2.2.2.2.2 et).1; rw [nI_leI (by omega) (by omega)] at c106; omega)
    · skip
      refine mh_iload_3 dX6_goesOn_109 (q := 110) rfl ?_
      refine mh_callS1 ca_X6_goesOn_110 (q := 113) rfl (by simp [Value.category]) ⟨Nat.zero_le _, Nat.zero_le _⟩ ?_
      refine sp_X6_kindOf ?_
      refine mh_bipush (v := (-9)) dX6_goesOn_113 (q := 115) rfl (by decide) ?_
      refine mh_icmp_eq dX6_goesOn_115 (tgt := 122) (q := 118) rfl rfl (fun c115 => ?_) (fun c115 => ?_)
      · skip
        refine mh_iconst_0 dX6_goesOn_122 (q := 123) rfl ?_
        refine mh_ireturn dX6_goesOn_123 rfl rfl ?_
        exact hf (fun z => (z.2.2.2.2.2 et).2 c115)
      · skip
        refine mh_iconst_1 dX6_goesOn_118 (q := 119) rfl ?_
        refine mh_goto dX6_goesOn_119 (tgt := 123) rfl ?_
        refine mh_ireturn dX6_goesOn_123 rfl rfl ?_
        exact ht ⟨fun e => absurd e (by omega), fun e => absurd e (by omega), fun e => absurd e (by omega), fun e => absurd e (by omega), fun e => absurd e (by omega), fun _ => ⟨by rw [nI_leI (by omega) (by omega)] at c106; omega, c115⟩⟩
  · rcases (show i10 = 0 ∨ i10 = 1 ∨ i10 = 2 ∨ i10 = 3 ∨ i10 = 4 by omega) with rfl | rfl | rfl | rfl | rfl
    · refine ⟨34, 44, rfl, rfl, ?_⟩
      replace c10 : _ = (0 : Int32) := Int32.toInt_inj.mp c10
      have et : t = 0 := (nI_eq (by omega) (by decide)).mp c10
      subst et
      refine mh_iload_3 dX6_goesOn_44 (q := 45) rfl ?_
      refine mh_bipush (v := 119) dX6_goesOn_45 (q := 47) rfl (by decide) ?_
      refine mh_icmp_ne dX6_goesOn_47 (tgt := 54) (q := 50) rfl rfl (fun cc => ?_) (fun cc => ?_)
      · skip
        refine mh_iconst_0 dX6_goesOn_54 (q := 55) rfl ?_
        refine mh_ireturn dX6_goesOn_55 rfl rfl ?_
        exact hf (fun z => cc (z.1 rfl))
      · skip
        refine mh_iconst_1 dX6_goesOn_50 (q := 51) rfl ?_
        refine mh_goto dX6_goesOn_51 (tgt := 55) rfl ?_
        refine mh_ireturn dX6_goesOn_55 rfl rfl ?_
        exact ht ⟨fun _ => cc, fun e => absurd e (by omega), fun e => absurd e (by omega), fun e => absurd e (by omega), fun e => absurd e (by omega), fun e => absurd e (by omega)⟩
    · refine ⟨46, 56, rfl, rfl, ?_⟩
      replace c10 : _ = (1 : Int32) := Int32.toInt_inj.mp c10
      have et : t = 1 := (nI_eq (by omega) (by decide)).mp c10
      subst et
      refine mh_iload_3 dX6_goesOn_56 (q := 57) rfl ?_
      refine mh_bipush (v := 49) dX6_goesOn_57 (q := 59) rfl (by decide) ?_
      refine mh_bipush (v := 52) dX6_goesOn_59 (q := 61) rfl (by decide) ?_
      refine mh_callS3 ca_X6_goesOn_61 (q := 64) rfl (by simp [Value.category]) ⟨Nat.zero_le _, Nat.zero_le _⟩ ?_
      refine sp_X6_within (fun cw => ?_) (fun cw => ?_)
      · skip
        refine mh_ireturn dX6_goesOn_64 rfl rfl ?_
        exact ht ⟨fun e => absurd e (by omega), fun _ => cw, fun e => absurd e (by omega), fun e => absurd e (by omega), fun e => absurd e (by omega), fun e => absurd e (by omega)⟩
      · skip
        refine mh_ireturn dX6_goesOn_64 rfl rfl ?_
        exact hf (fun z => cw (z.2.1 rfl))
    · refine ⟨55, 65, rfl, rfl, ?_⟩
      replace c10 : _ = (2 : Int32) := Int32.toInt_inj.mp c10
      have et : t = 2 := (nI_eq (by omega) (by decide)).mp c10
      subst et
      refine mh_iload_3 dX6_goesOn_65 (q := 66) rfl ?_
      refine mh_bipush (v := 104) dX6_goesOn_66 (q := 68) rfl (by decide) ?_
      refine mh_icmp_ne dX6_goesOn_68 (tgt := 75) (q := 71) rfl rfl (fun cc => ?_) (fun cc => ?_)
      · skip
        refine mh_iconst_0 dX6_goesOn_75 (q := 76) rfl ?_
        refine mh_ireturn dX6_goesOn_76 rfl rfl ?_
        exact hf (fun z => cc (z.2.2.1 rfl))
      · skip
        refine mh_iconst_1 dX6_goesOn_71 (q := 72) rfl ?_
        refine mh_goto dX6_goesOn_72 (tgt := 76) rfl ?_
        refine mh_ireturn dX6_goesOn_76 rfl rfl ?_
        exact ht ⟨fun e => absurd e (by omega), fun e => absurd e (by omega), fun _ => cc, fun e => absurd e (by omega), fun e => absurd e (by omega), fun e => absurd e (by omega)⟩
    · refine ⟨67, 77, rfl, rfl, ?_⟩
      replace c10 : _ = (3 : Int32) := Int32.toInt_inj.mp c10
      have et : t = 3 := (nI_eq (by omega) (by decide)).mp c10
      subst et
      refine mh_iload_3 dX6_goesOn_77 (q := 78) rfl ?_
      refine mh_bipush (v := 49) dX6_goesOn_78 (q := 80) rfl (by decide) ?_
      refine mh_bipush (v := 51) dX6_goesOn_80 (q := 82) rfl (by decide) ?_
      refine mh_callS3 ca_X6_goesOn_82 (q := 85) rfl (by simp [Value.category]) ⟨Nat.zero_le _, Nat.zero_le _⟩ ?_
      refine sp_X6_within (fun cw => ?_) (fun cw => ?_)
      · skip
        refine mh_ireturn dX6_goesOn_85 rfl rfl ?_
        exact ht ⟨fun e => absurd e (by omega), fun e => absurd e (by omega), fun e => absurd e (by omega), fun _ => cw, fun e => absurd e (by omega), fun e => absurd e (by omega)⟩
      · skip
        refine mh_ireturn dX6_goesOn_85 rfl rfl ?_
        exact hf (fun z => cw (z.2.2.2.1 rfl))
    · refine ⟨76, 86, rfl, rfl, ?_⟩
      replace c10 : _ = (4 : Int32) := Int32.toInt_inj.mp c10
      have et : t = 4 := (nI_eq (by omega) (by decide)).mp c10
      subst et
      refine mh_iload_3 dX6_goesOn_86 (q := 87) rfl ?_
      refine mh_bipush (v := 59) dX6_goesOn_87 (q := 89) rfl (by decide) ?_
      refine mh_icmp_ne dX6_goesOn_89 (tgt := 96) (q := 92) rfl rfl (fun cc => ?_) (fun cc => ?_)
      · skip
        refine mh_iconst_0 dX6_goesOn_96 (q := 97) rfl ?_
        refine mh_ireturn dX6_goesOn_97 rfl rfl ?_
        exact hf (fun z => cc (z.2.2.2.2.1 rfl))
      · skip
        refine mh_iconst_1 dX6_goesOn_92 (q := 93) rfl ?_
        refine mh_goto dX6_goesOn_93 (tgt := 97) rfl ?_
        refine mh_ireturn dX6_goesOn_97 rfl rfl ?_
        exact ht ⟨fun e => absurd e (by omega), fun e => absurd e (by omega), fun e => absurd e (by omega), fun e => absurd e (by omega), fun _ => cc, fun e => absurd e (by omega)⟩
set_option maxHeartbeats 4000000 in
set_option maxRecDepth 100000 in
theorem lp_X6_firstFaultOf {l : Launch} {K : mhX} {kc ks : Nat} {Φ : mhQ} {S : List mhS} {F : mhF} {I : mhI} {J : mhJ} {P : mhP} {b ii n : Nat} {cl : Nat → Int32} (hb : mhKX3 S b) (hin : ii + n ≤ 60) (hcl : ∀ t, t < n → I (b + 1) (nI (ii + t)) = cl t) (hΦ : ∀ y, ffA cl n y → Φ (some (.int y)) S F I J P) : ∀ (m t : Nat), t + m = n → (∀ s, s < t → gdA cl s) → mhV l K mX6_firstFaultOf kc ks Φ 2 [some (.ref b), some (.int (nI ii)), some (.int (nI n)), some (.int (nI t))] [] S F I J P := by
  intro m
  induction m with
  | zero =>
    intro t ht hg
    obtain rfl : t = n := by omega
    refine mh_iload_3 dX6_firstFaultOf_2 (q := 3) rfl ?_
    refine mh_iload_2 dX6_firstFaultOf_3 (q := 4) rfl ?_
    refine mh_icmp_ge dX6_firstFaultOf_4 (tgt := 24) (q := 7) rfl rfl (fun _ => ?_) (fun hh => absurd (nI_le (Nat.le_refl _) (by omega)) hh)
    refine mh_iload_2 dX6_firstFaultOf_24 (q := 25) rfl ?_
    refine mh_iconst_5 dX6_firstFaultOf_25 (q := 26) rfl ?_
    refine mh_icmp_ge dX6_firstFaultOf_26 (tgt := 33) (q := 29) rfl rfl (fun c26 => ?_) (fun c26 => ?_)
    · skip
      rw [show (5 : Int32) = nI 5 from rfl, nI_leI (by decide) (by omega)] at c26
      have d1 := gd_1 (hg 1 (by omega))
      have d3 := gd_3 (hg 3 (by omega))
      have hLt : htL cl = gSides (rdW (cl 1)) (rdW (cl 3)) := rfl
      have hbd := gBd (gd_ok (hg 1 (by omega)) (hg 3 (by omega)))
      refine mh_iconst_5 dX6_firstFaultOf_33 (q := 34) rfl ?_
      refine mh_aload_0 dX6_firstFaultOf_34 (q := 35) rfl ?_
      refine mh_iload_1 dX6_firstFaultOf_35 (q := 36) rfl ?_
      refine mh_callS2 ca_X6_firstFaultOf_36 (q := 39) rfl (by simp [Value.category]) ⟨Nat.zero_le _, Nat.zero_le _⟩ ?_
      refine sp_X6_lettersOf hb hin hcl (by omega) d1.1 d3.1 ?_
      refine mh_iadd dX6_firstFaultOf_39 (q := 40) rfl ?_
      rw [show (5 : Int32) + nI (htL cl) = nI (5 + htL cl) from nI_add 5 _]
      refine mh_istore_3 dX6_firstFaultOf_40 (q := 41) rfl ?_
      refine mh_iload_2 dX6_firstFaultOf_41 (q := 42) rfl ?_
      refine mh_iload_3 dX6_firstFaultOf_42 (q := 43) rfl ?_
      refine mh_icmp_ge dX6_firstFaultOf_43 (tgt := 50) (q := 46) rfl rfl (fun c43 => ?_) (fun c43 => ?_)
      · skip
        rw [nI_leI (by omega) (by omega)] at c43
        refine mh_bipush (v := (-9)) dX6_firstFaultOf_50 (q := 52) rfl (by decide) ?_
        refine mh_ireturn dX6_firstFaultOf_52 rfl rfl ?_
        exact hΦ _ (Or.inr (Or.inr ⟨hg, by unfold ffW; rw [if_neg (by omega)]; exact c43, rfl⟩))
      · skip
        rw [nI_leI (by omega) (by omega)] at c43
        refine mh_iload_2 dX6_firstFaultOf_46 (q := 47) rfl ?_
        refine mh_goto dX6_firstFaultOf_47 (tgt := 52) rfl ?_
        refine mh_ireturn dX6_firstFaultOf_52 rfl rfl ?_
        exact hΦ _ (Or.inr (Or.inl ⟨hg, by unfold ffW; rw [if_neg (by omega)]; omega, rfl⟩))
    · skip
      rw [show (5 : Int32) = nI 5 from rfl, nI_leI (by decide) (by omega)] at c26
      refine mh_iconst_5 dX6_firstFaultOf_29 (q := 30) rfl ?_
      rw [show (5 : Int32) = nI 5 from rfl]
      refine mh_goto dX6_firstFaultOf_30 (tgt := 40) rfl ?_
      refine mh_istore_3 dX6_firstFaultOf_40 (q := 41) rfl ?_
      refine mh_iload_2 dX6_firstFaultOf_41 (q := 42) rfl ?_
      refine mh_iload_3 dX6_firstFaultOf_42 (q := 43) rfl ?_
      refine mh_icmp_ge dX6_firstFaultOf_43 (tgt := 50) (q := 46) rfl rfl (fun c43 => ?_) (fun c43 => ?_)
      · skip
        rw [nI_leI (by omega) (by omega)] at c43
        refine mh_bipush (v := (-9)) dX6_firstFaultOf_50 (q := 52) rfl (by decide) ?_
        refine mh_ireturn dX6_firstFaultOf_52 rfl rfl ?_
        exact hΦ _ (Or.inr (Or.inr ⟨hg, by unfold ffW; rw [if_pos (by omega)]; exact c43, rfl⟩))
      · skip
        rw [nI_leI (by omega) (by omega)] at c43
        refine mh_iload_2 dX6_firstFaultOf_46 (q := 47) rfl ?_
        refine mh_goto dX6_firstFaultOf_47 (tgt := 52) rfl ?_
        refine mh_ireturn dX6_firstFaultOf_52 rfl rfl ?_
        exact hΦ _ (Or.inr (Or.inl ⟨hg, by unfold ffW; rw [if_pos (by omega)]; omega, rfl⟩))
  | succ m ih =>
    intro t ht hg
    refine mh_iload_3 dX6_firstFaultOf_2 (q := 3) rfl ?_
    refine mh_iload_2 dX6_firstFaultOf_3 (q := 4) rfl ?_
    refine mh_icmp_ge dX6_firstFaultOf_4 (tgt := 24) (q := 7) rfl rfl (fun hh => absurd hh (nI_ge (by omega) (by omega))) (fun _ => ?_)
    refine mh_aload_0 dX6_firstFaultOf_7 (q := 8) rfl ?_
    refine mh_iload_1 dX6_firstFaultOf_8 (q := 9) rfl ?_
    refine mh_iload_3 dX6_firstFaultOf_9 (q := 10) rfl ?_
    refine mh_callS3 ca_X6_firstFaultOf_10 (q := 13) rfl (by simp [Value.category]) ⟨Nat.zero_le _, Nat.zero_le _⟩ ?_
    refine sp_X6_goesOn hb hin hcl (t := t) (by omega) (fun h5 => ⟨hg 1 (by omega), hg 3 (by omega)⟩) (fun cg => ?_) (fun cg => ?_)
    · skip
      refine mh_if_ne dX6_firstFaultOf_13 (tgt := 18) (q := 16) rfl rfl (fun _ => ?_) (fun hh => False.elim (by revert hh; decide))
      refine mh_iinc_3 (v := 1) dX6_firstFaultOf_18 (q := 21) rfl (by decide) ?_
      refine mh_goto dX6_firstFaultOf_21 (tgt := 2) rfl ?_
      rw [nI_1]
      exact ih (t + 1) (by omega) (fun s hs => by
        rcases Nat.lt_or_ge s t with u | u
        · exact hg s u
        · rw [show s = t by omega]; exact cg)
    · skip
      refine mh_if_ne dX6_firstFaultOf_13 (tgt := 18) (q := 16) rfl rfl (fun hh => False.elim (by revert hh; decide)) (fun _ => ?_)
      refine mh_iload_3 dX6_firstFaultOf_16 (q := 17) rfl ?_
      refine mh_ireturn dX6_firstFaultOf_17 rfl rfl ?_
      exact hΦ _ (Or.inl ⟨t, by omega, cg, hg, rfl⟩)
set_option maxHeartbeats 4000000 in
set_option maxRecDepth 100000 in
theorem sp_X6_firstFaultOf {l : Launch} {K : mhX} {Φ : mhQ} {S : List mhS} {F : mhF} {I : mhI} {J : mhJ} {P : mhP} {b ii n : Nat} {cl : Nat → Int32} (hb : mhKX3 S b) (hin : ii + n ≤ 60) (hcl : ∀ t, t < n → I (b + 1) (nI (ii + t)) = cl t) (hΦ : ∀ y, ffA cl n y → Φ (some (.int y)) S F I J P) : mhOk l K mX6_firstFaultOf [.ref b, .int (nI ii), .int (nI n)] S F I J P Φ := by
  refine mhOk.of (by decide) (by decide) rfl (Nat.le_of_ble_eq_true rfl) ?_
  refine mh_iconst_0 dX6_firstFaultOf_0 (q := 1) rfl ?_
  refine mh_istore_3 dX6_firstFaultOf_1 (q := 2) rfl ?_
  exact lp_X6_firstFaultOf (kc := mX6_firstFaultOf.2.2.2.2.cells) (ks := mX6_firstFaultOf.2.2.2.2.slots) hb hin hcl hΦ n 0 (Nat.zero_add _) (fun s hs => absurd hs (Nat.not_lt_zero s))
set_option maxHeartbeats 4000000 in
set_option maxRecDepth 100000 in
theorem lp_X6_builtBy {l : Launch} {K : mhX} {kc ks : Nat} {Φ : mhQ} {S : List mhS} {J : mhJ} {P : mhP} {F : mhF} {I0 : mhI} {a b ii n : Nat} {cl : Nat → Int32} (hb : mhKX3 S b) (hba : b + 2 ≤ a) (hin : ii + n ≤ 60) (ok : htOk cl n) (hΦ : ∀ I2 : mhI, mhHs S F I2 a (rdW (cl 1)) (rdW (cl 3)) → mhPn I2 a (rdW (cl 1)) (rdW (cl 3)) (fun k => knd (cl (5 + k))) → (∀ c y, c ≠ a + 1 → I2 c y = I0 c y) → Φ (some (.ref a)) S F I2 J P) : ∀ (m q : Nat) (I : mhI), q + m = htL cl → mhHs S F I a (rdW (cl 1)) (rdW (cl 3)) → (∀ t, t < n → I (b + 1) (nI (ii + t)) = cl t) → (∀ k, k < q → I (a + 1) (nI k) = knd (cl (5 + k))) → (∀ c y, c ≠ a + 1 → I c y = I0 c y) → mhV l K mX6_builtBy kc ks Φ 32 [some (.ref b), some (.int (nI ii)), some (.ref a), some (.int (nI q))] [] S F I J P := by
  have hbd := gBd ok.1
  have hL : htL cl = gSides (rdW (cl 1)) (rdW (cl 3)) := rfl
  have en := ok.2.1
  intro m
  induction m with
  | zero =>
    intro q I hq hH hcl hp hf
    obtain rfl : q = htL cl := by omega
    refine mh_iload_3 dX6_builtBy_32 (q := 33) rfl ?_
    refine mh_aload_2 dX6_builtBy_33 (q := 34) rfl ?_
    refine mh_getI fl_X6_115 dX6_builtBy_34 (q := 37) rfl (shX1_0 hH.1) rfl ?_
    rw [hH.2.2.2.2.2.1]
    refine mh_icmp_ge dX6_builtBy_37 (tgt := 65) (q := 40) rfl rfl (fun _ => ?_) (fun hh => absurd (show nI (gSides (rdW (cl 1)) (rdW (cl 3))) ≤ nI (htL cl) from nI_le (by omega) (by omega)) hh)
    refine mh_aload_2 dX6_builtBy_65 (q := 66) rfl ?_
    refine mh_areturn dX6_builtBy_66 rfl ?_
    exact hΦ I hH hp hf
  | succ m ih =>
    intro q I hq hH hcl hp hf
    refine mh_iload_3 dX6_builtBy_32 (q := 33) rfl ?_
    refine mh_aload_2 dX6_builtBy_33 (q := 34) rfl ?_
    refine mh_getI fl_X6_115 dX6_builtBy_34 (q := 37) rfl (shX1_0 hH.1) rfl ?_
    rw [hH.2.2.2.2.2.1]
    refine mh_icmp_ge dX6_builtBy_37 (tgt := 65) (q := 40) rfl rfl (fun hh => absurd hh (nI_ge (by omega) (by omega))) (fun _ => ?_)
    refine mh_aload_2 dX6_builtBy_40 (q := 41) rfl ?_
    refine mh_getR fl_X6_118 dX6_builtBy_41 (q := 44) rfl (shX1_0 hH.1) rfl ?_
    refine mh_iload_3 dX6_builtBy_44 (q := 45) rfl ?_
    refine mh_aload_0 dX6_builtBy_45 (q := 46) rfl ?_
    refine mh_getR fl_X6_102 dX6_builtBy_46 (q := 49) rfl (shX3_0 hb) rfl ?_
    refine mh_iload_1 dX6_builtBy_49 (q := 50) rfl ?_
    refine mh_iconst_5 dX6_builtBy_50 (q := 51) rfl ?_
    refine mh_iadd dX6_builtBy_51 (q := 52) rfl ?_
    rw [show nI ii + 5 = nI (ii + 5) from nI_add _ 5]
    refine mh_iload_3 dX6_builtBy_52 (q := 53) rfl ?_
    refine mh_iadd dX6_builtBy_53 (q := 54) rfl ?_
    rw [nI_add, Nat.add_assoc]
    refine mh_iald dX6_builtBy_54 (q := 55) rfl (shX3_1 hb) (vp_in_nI (by omega) (by decide)) ?_
    rw [hcl _ (by omega)]
    refine mh_callS1 ca_X6_builtBy_55 (q := 58) rfl (by simp [Value.category]) ⟨Nat.zero_le _, Nat.zero_le _⟩ ?_
    refine sp_X6_kindOf ?_
    refine mh_iast dX6_builtBy_58 (q := 59) rfl (shX1_1 hH.1) (by decide) (vp_in_nI (by omega) (by decide)) ?_
    refine mh_iinc_3 (v := 1) dX6_builtBy_59 (q := 62) rfl (by decide) ?_
    refine mh_goto dX6_builtBy_62 (tgt := 32) rfl ?_
    rw [nI_1]
    have hfr : frT4 (a + 1000) I I := frT4.rf
    refine ih (q + 1) _ (by omega) ?_ (fun t ht => (mhUI_ne (by omega)).trans (hcl t ht)) (fun k hk => ?_) (fun c y hc => (mhUI_ne hc).trans (hf c y hc))
    · obtain ⟨z1, z2, z3, z4, z5, z6, z7, z8, z9, z10, z11⟩ := hH
      exact ⟨z1, z2, z3, z4, z5, z6, fun b hb j => (mhUI_ne (by omega)).trans (z7 b hb j), (mhUI_ne (by omega)).trans z8, (mhUI_ne (by omega)).trans z9, (mhUI_ne (by omega)).trans z10, z11⟩
    · rw [mhUI_at (by omega) (by omega)]
      by_cases e : k = q
      · rw [if_pos ⟨rfl, e⟩, e]
      · rw [if_neg (fun z => e z.2)]; exact hp k (by omega)
set_option maxHeartbeats 4000000 in
set_option maxRecDepth 100000 in
theorem sp_X6_builtBy {l : Launch} {K : mhX} {Φ : mhQ} {S : List mhS} {F : mhF} {I : mhI} {J : mhJ} {P : mhP} {b ii n : Nat} {cl : Nat → Int32} (hb : mhKX3 S b) (h52 : 21 ≤ S.length) (hin : ii + n ≤ 60) (hcl : ∀ t, t < n → I (b + 1) (nI (ii + t)) = cl t) (ok : htOk cl n) (hΦ : ∀ (S2 : List mhS) (F2 : mhF) (I2 : mhI), exS S S2 → S2.length = S.length + 11 → mhHs S2 F2 I2 S.length (rdW (cl 1)) (rdW (cl 3)) → mhPn I2 S.length (rdW (cl 1)) (rdW (cl 3)) (fun k => knd (cl (5 + k))) → (∀ y, I2 (S.length + 2) y = 0) → frB S.length F I F2 I2 → Φ (some (.ref S.length)) S2 F2 I2 J P) : mhOk l K mX6_builtBy [.ref b, .int (nI ii)] S F I J P Φ := by
  refine mhOk.of (by decide) (by decide) rfl (Nat.le_of_ble_eq_true rfl) ?_
  have hbd := gBd ok.1
  have hL : htL cl = gSides (rdW (cl 1)) (rdW (cl 3)) := rfl
  have en := ok.2.1
  refine mh_new (ci := 1) (T := TX1) (N := 18) (ty0 := tyX1) (rs := [none, none, none, none, some none, some none, some none, some none, some none, none, none, none, none, some none, some none, some none, some none, some none]) dX6_builtBy_0 wd_32 wd_202 wd_19 rfl inX1 tyX1_ok (fun j hj => by rcases (show j = 0 ∨ j = 1 ∨ j = 2 ∨ j = 3 ∨ j = 4 ∨ j = 5 ∨ j = 6 ∨ j = 7 ∨ j = 8 ∨ j = 9 ∨ j = 10 ∨ j = 11 ∨ j = 12 ∨ j = 13 ∨ j = 14 ∨ j = 15 ∨ j = 16 ∨ j = 17 by omega) with rfl | rfl | rfl | rfl | rfl | rfl | rfl | rfl | rfl | rfl | rfl | rfl | rfl | rfl | rfl | rfl | rfl | rfl <;> first | exact Or.inl ⟨rfl, rfl⟩ | exact Or.inr ⟨rfl, rfl⟩) (q := 3) rfl (by decide) ?_
  obtain ⟨S1, hS1⟩ : ∃ z, z = S ++ [.inr (1, [none, none, none, none, some none, some none, some none, some none, some none, none, none, none, none, some none, some none, some none, some none, some none])] := ⟨_, rfl⟩
  rw [← hS1]
  have hex1 : exS S S1 := by rw [hS1]; exact exS.app
  have lb := exS.lt (shX3_1 hb)
  have hb1 := hb.ex hex1
  refine mh_dupr dX6_builtBy_3 (q := 4) rfl ?_
  refine mh_aload_0 dX6_builtBy_4 (q := 5) rfl ?_
  refine mh_getR fl_X6_102 dX6_builtBy_5 (q := 8) rfl (shX3_0 hb1) rfl ?_
  refine mh_iload_1 dX6_builtBy_8 (q := 9) rfl ?_
  refine mh_iconst_1 dX6_builtBy_9 (q := 10) rfl ?_
  refine mh_iadd dX6_builtBy_10 (q := 11) rfl ?_
  rw [nI_1]
  refine mh_iald dX6_builtBy_11 (q := 12) rfl (shX3_1 hb1) (vp_in_nI (by omega) (by decide)) ?_
  rw [hcl 1 (by omega)]
  refine mh_bipush (v := 48) dX6_builtBy_12 (q := 14) rfl (by decide) ?_
  refine mh_isub dX6_builtBy_14 (q := 15) rfl ?_
  rw [ok.2.2.1]
  refine mh_aload_0 dX6_builtBy_15 (q := 16) rfl ?_
  refine mh_getR fl_X6_102 dX6_builtBy_16 (q := 19) rfl (shX3_0 hb1) rfl ?_
  refine mh_iload_1 dX6_builtBy_19 (q := 20) rfl ?_
  refine mh_iconst_3 dX6_builtBy_20 (q := 21) rfl ?_
  refine mh_iadd dX6_builtBy_21 (q := 22) rfl ?_
  rw [show nI ii + 3 = nI (ii + 3) from nI_add _ 3]
  refine mh_iald dX6_builtBy_22 (q := 23) rfl (shX3_1 hb1) (vp_in_nI (by omega) (by decide)) ?_
  rw [hcl 3 (by omega)]
  refine mh_bipush (v := 48) dX6_builtBy_23 (q := 25) rfl (by decide) ?_
  refine mh_isub dX6_builtBy_25 (q := 26) rfl ?_
  rw [ok.2.2.2.1]
  refine mh_callI2 ca_X6_builtBy_26 (q := 29) rfl (by simp [Value.category]) (by decide) ?_
  refine sp_X1_init (L := S) (b := S.length) rfl h52 hS1 ok.1 (fun S2 F2 I2 sl so hH fo io iz => ?_)
  have hex : exS S S2 := exS.of so
  have hb2 := hb.ex hex
  have foo : ∀ c k, c < S.length → F2 c k = F c k := fun c k hc => (fo c k (by omega)).trans (if_neg (by omega))
  refine mh_astore_2 dX6_builtBy_29 (q := 30) rfl ?_
  refine mh_iconst_0 dX6_builtBy_30 (q := 31) rfl ?_
  refine mh_istore_3 dX6_builtBy_31 (q := 32) rfl ?_
  refine lp_X6_builtBy (kc := _) (ks := _) (I0 := I2) hb2 (by omega) hin ok (fun I3 h3 p3 f3 => hΦ S2 F2 I3 hex sl h3 p3 (fun y => (f3 _ _ (by omega)).trans (iz y).2) ⟨fun c k hc => foo c k hc, fun c y hc => (f3 _ _ (by omega)).trans (io c y (by omega))⟩) (htL cl) 0 I2 (Nat.zero_add _) hH (fun t ht => (io _ _ (by omega)).trans (hcl t ht)) (fun k hk => absurd hk (Nat.not_lt_zero k)) (fun _ _ _ => rfl)
set_option maxHeartbeats 4000000 in
set_option maxRecDepth 100000 in
theorem sp_X6_house {l : Launch} {K : mhX} {Φ : mhQ} {S : List mhS} {F : mhF} {I : mhI} {J : mhJ} {P : mhP} {nh : Nat} {wd hg aH : Nat → Nat} (hC : mhHC S F I P nh wd hg aH) (hP : mhSh S F P) (h52 : 21 ≤ S.length) {cl : Nat → Nat → Int32} (hcl : ∀ j, j < 4 → ¬ F (13 + 2 * j) 1 = -9 → ∀ c, c < 60 → I (13 + 2 * j + 1) (nI c) = cl j c) {k so i n : Int32} (hn : ¬ mhSc k → Φ (some (.int (-1))) S (mhUF F 0 12 0) I J P) (hb : mhSc k → ¬ mhSo so → Φ (some (.int (-2))) S (mhUF F 0 12 0) I J P) (hf : ∀ js, js < 4 → k = nI js → mhSo so → ¬ (mhAg (F (13 + 2 * js) 1) (F (13 + 2 * js) 2) so i n) = 0 → Φ (some (.int (-10 - (mhAg (F (13 + 2 * js) 1) (F (13 + 2 * js) 2) so i n)))) S (mhUF F 0 12 (mhAg (F (13 + 2 * js) 1) (F (13 + 2 * js) 2) so i n)) I J P) (hx : ∀ js ii nn y, js < 4 → k = nI js → mhSo so → (mhAg (F (13 + 2 * js) 1) (F (13 + 2 * js) 2) so i n) = 0 → i = nI ii → n = nI nn → ii + nn ≤ 60 → ffA (fun t => cl js (ii + t)) nn y → ¬ y = -9 → Φ (some (.int (-100 - y))) S (mhUF F 0 12 0) I J P) (hfull : ∀ js ii nn, js < 4 → k = nI js → mhSo so → (mhAg (F (13 + 2 * js) 1) (F (13 + 2 * js) 2) so i n) = 0 → i = nI ii → n = nI nn → ii + nn ≤ 60 → ffA (fun t => cl js (ii + t)) nn (-9) → nh = 3 → Φ (some (.int (-4))) S (mhUF F 0 12 0) I J P) (ht : ∀ js ii nn, js < 4 → k = nI js → mhSo so → (mhAg (F (13 + 2 * js) 1) (F (13 + 2 * js) 2) so i n) = 0 → i = nI ii → n = nI nn → ii + nn ≤ 60 → ffA (fun t => cl js (ii + t)) nn (-9) → htOk (fun t => cl js (ii + t)) nn → nh < 3 → ∀ (S2 : List mhS) (F2 : mhF) (I2 : mhI), exS S S2 → S2.length = S.length + 11 → mhHs S2 F2 I2 S.length (rdW (cl js (ii + 1))) (rdW (cl js (ii + 3))) → mhPn I2 S.length (rdW (cl js (ii + 1))) (rdW (cl js (ii + 3))) (fun k => knd (cl js (ii + (5 + k)))) → (∀ y, I2 (S.length + 2) y = 0) → (∀ b x, b < S.length → ¬ (b = 0 ∧ x = 7) → F2 b x = mhUF F 0 12 0 b x) → F2 0 7 = nI (nh + 1) → (∀ b y, b < S.length → I2 b y = I b y) → Φ (some (.int (nI nh))) S2 F2 I2 J (mhUP P 2 (nI nh) (some S.length))) : mhOk l K mX6_house [.ref 0, .int k, .int so, .int i, .int n] S F I J P Φ := by
  refine mhOk.of (by decide) (by decide) rfl (Nat.le_of_ble_eq_true rfl) ?_
  refine mh_aload_0 dX6_house_0 (q := 1) rfl ?_
  refine mh_iconst_0 dX6_house_1 (q := 2) rfl ?_
  refine mh_putI (Or.inl fw_X6_65) rfl rfl dX6_house_2 (q := 5) rfl (shX6_0 hC.1) rfl ?_
  refine mh_aload_0 dX6_house_5 (q := 6) rfl ?_
  refine mh_iload_1 dX6_house_6 (q := 7) rfl ?_
  refine mh_callV1 ca_X6_house_7 (shX6_0 hC.1) (q := 10) rfl (by simp [Value.category]) ⟨Nat.zero_le _, Nat.zero_le _⟩ ?_
  refine sp_X6_sheetAt hC.1 hP (fun hk => ?_) (fun js hjs ejs hk => ?_)
  · skip
    refine mh_astoreN_5 dX6_house_10 (q := 12) rfl ?_
    refine mh_aloadN_5 dX6_house_12 (q := 14) rfl ?_
    refine mh_ifnonnullN dX6_house_14 (q := 17) rfl ?_
    refine mh_iconst_m1 dX6_house_17 (q := 18) rfl ?_
    refine mh_ireturn dX6_house_18 rfl rfl ?_
    exact hn hk
  · skip
    subst ejs
    refine mh_astore_5 dX6_house_10 (q := 12) rfl ?_
    refine mh_aload_5 dX6_house_12 (q := 14) rfl ?_
    refine mh_ifnonnullR dX6_house_14 (tgt := 19) rfl ?_
    refine mh_iload_2 dX6_house_19 (q := 20) rfl ?_
    refine mh_callS1 ca_X6_house_20 (q := 23) rfl (by simp [Value.category]) ⟨Nat.zero_le _, Nat.zero_le _⟩ ?_
    refine sp_X6_isSort (fun cs => ?_) (fun cs => ?_)
    · skip
      refine mh_if_ne dX6_house_23 (tgt := 29) (q := 26) rfl rfl (fun _ => ?_) (fun hh => False.elim (by revert hh; decide))
      refine mh_aload_5 dX6_house_29 (q := 31) rfl ?_
      refine mh_iload_2 dX6_house_31 (q := 32) rfl ?_
      refine mh_iload_3 dX6_house_32 (q := 33) rfl ?_
      refine mh_iload_4 dX6_house_33 (q := 35) rfl ?_
      refine mh_callV3 ca_X6_house_35 (shX3_0 (hP js hjs).2.1) (q := 38) rfl (by simp [Value.category]) ⟨Nat.zero_le _, Nat.zero_le _⟩ ?_
      refine sp_X3_faultOfRow (hP js hjs).2.1 ?_
      rw [show mhUF F 0 12 0 (13 + 2 * js) 1 = F (13 + 2 * js) 1 from mhUF_ne (by omega)]
      rw [show mhUF F 0 12 0 (13 + 2 * js) 2 = F (13 + 2 * js) 2 from mhUF_ne (by omega)]
      refine mh_istore_6 dX6_house_38 (q := 40) rfl ?_
      refine mh_iload_6 dX6_house_40 (q := 42) rfl ?_
      refine mh_if_eq dX6_house_42 (tgt := 52) (q := 45) rfl rfl (fun c42 => ?_) (fun c42 => ?_)
      · skip
        obtain ⟨hs9, ii, nn0, hin, rfl, rfl⟩ := mhAg_0 c42 (hP js hjs).2.2.1 (hP js hjs).2.2.2
        have hcc : ∀ t, t < nn0 → I (13 + 2 * js + 1) (nI (ii + t)) = (fun t => cl js (ii + t)) t := fun t ht => hcl js hjs hs9 _ (by omega)
        have h3 := hC.2.1
        refine mh_aload_5 dX6_house_52 (q := 54) rfl ?_
        refine mh_iload_3 dX6_house_54 (q := 55) rfl ?_
        refine mh_iload_4 dX6_house_55 (q := 57) rfl ?_
        refine mh_callS3 ca_X6_house_57 (q := 60) rfl (by simp [Value.category]) ⟨Nat.zero_le _, Nat.zero_le _⟩ ?_
        refine sp_X6_firstFaultOf (hP js hjs).2.1 hin hcc (fun y hy => ?_)
        refine mh_istore_7 dX6_house_60 (q := 62) rfl ?_
        refine mh_iload_7 dX6_house_62 (q := 64) rfl ?_
        refine mh_bipush (v := (-9)) dX6_house_64 (q := 66) rfl (by decide) ?_
        refine mh_icmp_eq dX6_house_66 (tgt := 75) (q := 69) rfl rfl (fun c66 => ?_) (fun c66 => ?_)
        · skip
          subst c66
          have cff := hy
          have hok := ff_ok (by omega) cff
          refine mh_aload_0 dX6_house_75 (q := 76) rfl ?_
          refine mh_getI fl_X6_54 dX6_house_76 (q := 79) rfl (shX6_0 hC.1) rfl ?_
          rw [show mhUF F 0 12 0 0 7 = F 0 7 from mhUF_nk (by decide), hC.2.2.1]
          refine mh_aload_0 dX6_house_79 (q := 80) rfl ?_
          refine mh_getR fl_X6_19 dX6_house_80 (q := 83) rfl (shX6_0 hC.1) rfl ?_
          refine mh_alen (v := 3) dX6_house_83 (q := 84) rfl (shX6_2 hC.1) (by decide) rfl ?_
          refine mh_icmp_lt dX6_house_84 (tgt := 90) (q := 87) rfl rfl (fun c84 => ?_) (fun c84 => ?_)
          · skip
            rw [show (3 : Int32) = nI 3 from rfl, nI_ltI (by omega) (by decide)] at c84
            refine mh_aload_0 dX6_house_90 (q := 91) rfl ?_
            refine mh_getR fl_X6_19 dX6_house_91 (q := 94) rfl (shX6_0 hC.1) rfl ?_
            refine mh_aload_0 dX6_house_94 (q := 95) rfl ?_
            refine mh_getI fl_X6_54 dX6_house_95 (q := 98) rfl (shX6_0 hC.1) rfl ?_
            rw [show mhUF F 0 12 0 0 7 = F 0 7 from mhUF_nk (by decide), hC.2.2.1]
            refine mh_aload_5 dX6_house_98 (q := 100) rfl ?_
            refine mh_iload_3 dX6_house_100 (q := 101) rfl ?_
            refine mh_callS2 ca_X6_house_101 (q := 104) rfl (by simp [Value.category]) (by decide) ?_
            have l0 := exS.lt (shX6_0 hC.1)
            refine sp_X6_builtBy (hP js hjs).2.1 h52 hin hcc hok (fun S2 F2 I2 hex sl hH hp hz ff => ?_)
            have h62 := hC.1.ex hex
            have f7 : F2 0 7 = nI nh := (ff.1 0 7 l0).trans ((mhUF_nk (by decide)).trans hC.2.2.1)
            refine mh_aast (ci := 1) dX6_house_104 (q := 105) rfl rfl (Or.inr (Or.inl ⟨rfl, rfl⟩)) (shX6_2 h62) (by decide) (vp_in_nI (by omega) (by decide)) (shX1_0 hH.1) ?_
            refine mh_aload_0 dX6_house_105 (q := 106) rfl ?_
            refine mh_dupr dX6_house_106 (q := 107) rfl ?_
            refine mh_getI fl_X6_54 dX6_house_107 (q := 110) rfl (shX6_0 h62) rfl ?_
            rw [f7]
            refine mh_iconst_1 dX6_house_110 (q := 111) rfl ?_
            refine mh_iadd dX6_house_111 (q := 112) rfl ?_
            rw [nI_1]
            refine mh_putI (Or.inl fw_X6_54) rfl rfl dX6_house_112 (q := 115) rfl (shX6_0 h62) rfl ?_
            refine mh_aload_0 dX6_house_115 (q := 116) rfl ?_
            refine mh_getI fl_X6_54 dX6_house_116 (q := 119) rfl (shX6_0 h62) rfl ?_
            rw [mhUF_at]
            refine mh_iconst_1 dX6_house_119 (q := 120) rfl ?_
            refine mh_isub dX6_house_120 (q := 121) rfl ?_
            rw [show nI (nh + 1) - 1 = nI nh from by rw [← nI_1]; grind]
            refine mh_ireturn dX6_house_121 rfl rfl ?_
            have h3 : mhHs S2 (mhUF F2 0 7 (nI (nh + 1))) I2 S.length (rdW (cl js (ii + 1))) (rdW (cl js (ii + 3))) := by
              obtain ⟨z1, z2, z3, z4, z5, z6, z7, z8, z9, z10, z11⟩ := hH
              exact ⟨z1, z2, (mhUF_ne (by omega)).trans z3, (mhUF_ne (by omega)).trans z4, (mhUF_ne (by omega)).trans z5, (mhUF_ne (by omega)).trans z6, z7, z8, z9, z10, z11⟩
            exact ht js ii nn0 hjs rfl cs c42 rfl rfl hin cff hok c84 S2 _ I2 hex sl h3 hp hz (fun b x hb e => (mhUF_nk e).trans (ff.1 b x hb)) mhUF_at ff.2
          · skip
            rw [show (3 : Int32) = nI 3 from rfl, nI_ltI (by omega) (by decide)] at c84
            refine mh_bipush (v := (-4)) dX6_house_87 (q := 89) rfl (by decide) ?_
            refine mh_ireturn dX6_house_89 rfl rfl ?_
            exact hfull js ii nn0 hjs rfl cs c42 rfl rfl hin cff (by omega)
        · skip
          refine mh_bipush (v := (-100)) dX6_house_69 (q := 71) rfl (by decide) ?_
          refine mh_iload_7 dX6_house_71 (q := 73) rfl ?_
          refine mh_isub dX6_house_73 (q := 74) rfl ?_
          refine mh_ireturn dX6_house_74 rfl rfl ?_
          exact hx js ii nn0 y hjs rfl cs c42 rfl rfl hin hy c66
      · skip
        refine mh_aload_0 dX6_house_45 (q := 46) rfl ?_
        refine mh_iload_6 dX6_house_46 (q := 48) rfl ?_
        refine mh_callV1 ca_X6_house_48 (shX6_0 hC.1) (q := 51) rfl (by simp [Value.category]) ⟨Nat.zero_le _, Nat.zero_le _⟩ ?_
        refine sp_X6_faulted hC.1 ?_
        rw [mhUF_uu]
        refine mh_ireturn dX6_house_51 rfl rfl ?_
        exact hf js hjs rfl cs c42
    · skip
      refine mh_if_ne dX6_house_23 (tgt := 29) (q := 26) rfl rfl (fun hh => False.elim (by revert hh; decide)) (fun _ => ?_)
      refine mh_bipush (v := (-2)) dX6_house_26 (q := 28) rfl (by decide) ?_
      refine mh_ireturn dX6_house_28 rfl rfl ?_
      exact hb hk cs
