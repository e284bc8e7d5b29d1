/-! walkers: the reference -/
def wmO (I : mhI) (v : Nat) (u : mhWk) : Prop := I 38 (nI v) = nI u.1 ∧ I 39 (nI v) = nI u.2.1 ∧ I 40 (nI v) = u.2.2.1 ∧ I 41 (nI v) = nI u.2.2.2.1 ∧ I 42 (nI v) = u.2.2.2.2.1 ∧ I 43 (nI v) = u.2.2.2.2.2.1 ∧ I 44 (nI v) = u.2.2.2.2.2.2.1 ∧ I 45 (nI v) = (if u.2.2.1 = -9 then u.2.2.2.2.2.2.1 else -9) ∧ ∀ k, k < 43 → I 46 (nI (50 * v + k)) = u.2.2.2.2.2.2.2 k
def mhWM (F : mhF) (I : mhI) (nw : Nat) (wk : Nat → mhWk) : Prop := nw ≤ 8 ∧ F 21 28 = nI nw ∧ ∀ v, v < nw → wmO I v (wk v)
def smM (I : mhI) (j w h : Nat) (sm : Nat → Int32) : Prop := ∀ k, k < gSides w h → I 28 (nI (50 * j + k)) = sm k
def frX (v j : Nat) (I I2 : mhI) : Prop := ∀ c y, ¬ (c = 28 ∧ ∃ k, k < 50 ∧ y = nI (50 * j + k)) → ¬ (40 ≤ c ∧ c ≤ 45 ∧ y = nI v) → ¬ (c = 46 ∧ ∃ k, k < 50 ∧ y = nI (50 * v + k)) → I2 c y = I c y
theorem frX.rf {v j : Nat} {I : mhI} : frX v j I I := fun _ _ _ _ _ => rfl
theorem frX.tr {v j : Nat} {I I1 I2 : mhI} (h : frX v j I I1) (h2 : frX v j I1 I2) : frX v j I I2 := fun c y e1 e2 e3 => (h2 c y e1 e2 e3).trans (h c y e1 e2 e3)
theorem frX.u4 {v j a : Nat} {I : mhI} {x : Int32} (h1 : 40 ≤ a) (h2 : a ≤ 45) : frX v j I (mhUI I a (nI v) x) := fun c y _ e2 _ => if_neg (fun e => e2 ⟨by omega, by omega, e.2⟩)
theorem frX.u46 {v j k : Nat} {I : mhI} {x : Int32} (h : k < 50) : frX v j I (mhUI I 46 (nI (50 * v + k)) x) := fun c y _ _ e3 => if_neg (fun e => e3 ⟨e.1, k, h, e.2⟩)
theorem frX.u28 {v j k : Nat} {I : mhI} {x : Int32} (h : k < 50) : frX v j I (mhUI I 28 (nI (50 * j + k)) x) := fun c y e1 _ _ => if_neg (fun e => e1 ⟨e.1, k, h, e.2⟩)
theorem frX.o {v j x : Nat} {I I2 : mhI} {u : mhWk} (hf : frX v j I I2) (hv : v < 8) (hx : x < 8) (hne : x ≠ v) (H : wmO I x u) : wmO I2 x u := by
  obtain ⟨h1, h2, h3, h4, h5, h6, h7, h8, h9⟩ := H
  have q : ∀ c, c ≠ 28 → c ≠ 46 → I2 c (nI x) = I c (nI x) := fun c e1 e2 => hf c _ (fun z => e1 z.1) (fun z => hne ((nI_eq (by omega) (by omega)).mp z.2.2)) (fun z => e2 z.1)
  exact ⟨(q 38 (by decide) (by decide)).trans h1, (q 39 (by decide) (by decide)).trans h2, (q 40 (by decide) (by decide)).trans h3, (q 41 (by decide) (by decide)).trans h4, (q 42 (by decide) (by decide)).trans h5, (q 43 (by decide) (by decide)).trans h6, (q 44 (by decide) (by decide)).trans h7, (q 45 (by decide) (by decide)).trans h8, fun k hk => (hf 46 _ (fun z => absurd z.1 (by decide)) (fun z => absurd z.2.1 (by decide)) (fun ⟨_, t, z1, z2⟩ => by have := (nI_eq (by omega) (by omega)).mp z2; omega)).trans (h9 k hk)⟩
theorem frX.m {v j : Nat} {I I2 : mhI} (hf : frX v j I I2) {c : Nat} (h1 : c ≠ 28) (h2 : ¬ (40 ≤ c ∧ c ≤ 46)) (y : Int32) : I2 c y = I c y := hf c y (fun z => h1 z.1) (fun z => h2 ⟨z.1, by omega⟩) (fun z => h2 ⟨by omega, by omega⟩)
theorem mhHm.frx {v j i w h : Nat} {I I2 : mhI} (hf : frX v j I I2) (H : mhHm I i w h) : mhHm I2 i w h := ⟨H.1, H.2.1, (hf.m (by decide) (by decide) _).trans H.2.2.1, (hf.m (by decide) (by decide) _).trans H.2.2.2⟩
theorem mhKn.frx {v j i w h : Nat} {kd : Nat → Int32} {I I2 : mhI} (hf : frX v j I I2) (H : mhKn I i w h kd) : mhKn I2 i w h kd := fun k hk => (hf.m (by decide) (by decide) _).trans (H k hk)
set_option maxHeartbeats 4000000 in
set_option maxRecDepth 100000 in
theorem sp_X7_isWalker {l : Launch} {K : mhX} {Φ : mhQ} {S : List mhS} {F : mhF} {I : mhI} {J : mhJ} {P : mhP} (h7 : mhKX7 S) {nw : Nat} {wk : Nat → mhWk} (hW : mhWM F I nw wk) {x : Int32} (ht : ∀ v, v < nw → x = nI v → Φ (some (.int 1)) S F I J P) (hf : ¬ vWn nw x → Φ (some (.int 0)) S F I J P) : mhOk l K mX7_isWalker [.ref 21, .int x] S F I J P Φ := by
  refine mhOk.of (by decide) (by decide) rfl (Nat.le_of_ble_eq_true rfl) ?_
  refine mh_iload_1 dX7_isWalker_0 (q := 1) rfl ?_
  refine mh_if_lt dX7_isWalker_1 (tgt := 16) (q := 4) rfl rfl (fun c1 => ?_) (fun c1 => ?_)
  · skip
    refine mh_iconst_0 dX7_isWalker_16 (q := 17) rfl ?_
    refine mh_ireturn dX7_isWalker_17 rfl rfl ?_
    refine hf (fun e => ?_)
    have e2 := (mh_lt (n := nw) (by have := hW.1; omega)).mpr e
    first | (exact absurd e2.1 (Int32.not_le.mpr c1)) | (exact absurd e2.2 (Int32.not_lt.mpr c9))
  · skip
    refine mh_iload_1 dX7_isWalker_4 (q := 5) rfl ?_
    refine mh_aload_0 dX7_isWalker_5 (q := 6) rfl ?_
    refine mh_getI fl_X7_219 dX7_isWalker_6 (q := 9) rfl (shX7_0 h7) rfl ?_
    rw [hW.2.1]
    refine mh_icmp_ge dX7_isWalker_9 (tgt := 16) (q := 12) rfl rfl (fun c9 => ?_) (fun c9 => ?_)
    · skip
      refine mh_iconst_0 dX7_isWalker_16 (q := 17) rfl ?_
      refine mh_ireturn dX7_isWalker_17 rfl rfl ?_
      refine hf (fun e => ?_)
      have e2 := (mh_lt (n := nw) (by have := hW.1; omega)).mpr e
      first | (exact absurd e2.1 (Int32.not_le.mpr c1)) | (exact absurd e2.2 (Int32.not_lt.mpr c9))
    · skip
      refine mh_iconst_1 dX7_isWalker_12 (q := 13) rfl ?_
      refine mh_goto dX7_isWalker_13 (tgt := 17) rfl ?_
      refine mh_ireturn dX7_isWalker_17 rfl rfl ?_
      obtain ⟨j, hj, e⟩ := (mh_lt (n := nw) (by have := hW.1; omega)).mp ⟨Int32.not_lt.mp c1, Int32.not_le.mp c9⟩
      exact ht j hj e
set_option maxHeartbeats 4000000 in
set_option maxRecDepth 100000 in
theorem sp_X7_takes {l : Launch} {K : mhX} {Φ : mhQ} {S : List mhS} {F : mhF} {I : mhI} {J : mhJ} {P : mhP} (h7 : mhKX7 S) {j w h v q : Nat} {kd sm : Nat → Int32} {u : mhWk} (hm : mhHm I j w h) (hk : mhKn I j w h kd) (hs : smM I j w h sm) (hv : v < 8) (ek : I 38 (nI v) = nI u.1) (hk3 : u.1 < 3) (hq : q < gSides w h) (ht : wkTk kd sm u.1 q → Φ (some (.int 1)) S F I J P) (hf : ¬ wkTk kd sm u.1 q → Φ (some (.int 0)) S F I J P) : mhOk l K mX7_takes [.ref 21, .int (nI v), .int (nI (50 * j + q))] S F I J P Φ := by
  refine mhOk.of (by decide) (by decide) rfl (Nat.le_of_ble_eq_true rfl) ?_
  have hbd := gBd hm.2.1
  have hj := hm.1
  refine mh_aload_0 dX7_takes_0 (q := 1) rfl ?_
  refine mh_getR fl_X7_25 dX7_takes_1 (q := 4) rfl (shX7_0 h7) rfl ?_
  refine mh_iload_2 dX7_takes_4 (q := 5) rfl ?_
  refine mh_iald dX7_takes_5 (q := 6) rfl (shX7_6 h7) (vp_in_nI (by omega) (by decide)) ?_
  rw [hk q hq]
  refine mh_iconst_2 dX7_takes_6 (q := 7) rfl ?_
  refine mh_icmp_eq dX7_takes_7 (tgt := 38) (q := 10) rfl rfl (fun c7 => ?_) (fun c7 => ?_)
  · skip
    refine mh_iconst_1 dX7_takes_38 (q := 39) rfl ?_
    refine mh_goto dX7_takes_39 (tgt := 43) rfl ?_
    refine mh_ireturn dX7_takes_43 rfl rfl ?_
    exact ht (Or.inl c7)
  · skip
    refine mh_aload_0 dX7_takes_10 (q := 11) rfl ?_
    refine mh_getR fl_X7_59 dX7_takes_11 (q := 14) rfl (shX7_0 h7) rfl ?_
    refine mh_iload_1 dX7_takes_14 (q := 15) rfl ?_
    refine mh_iald dX7_takes_15 (q := 16) rfl (shX7_17 h7) (vp_in_nI (by omega) (by decide)) ?_
    rw [ek]
    refine mh_if_le dX7_takes_16 (tgt := 42) (q := 19) rfl rfl (fun c16 => ?_) (fun c16 => ?_)
    · skip
      rw [show (0 : Int32) = nI 0 from rfl, nI_leI (by omega) (by decide)] at c16
      refine mh_iconst_0 dX7_takes_42 (q := 43) rfl ?_
      refine mh_ireturn dX7_takes_43 rfl rfl ?_
      exact hf (fun z => z.elim c7 (fun y => by omega))
    · skip
      rw [show (0 : Int32) = nI 0 from rfl, nI_leI (by omega) (by decide)] at c16
      refine mh_aload_0 dX7_takes_19 (q := 20) rfl ?_
      refine mh_getR fl_X7_25 dX7_takes_20 (q := 23) rfl (shX7_0 h7) rfl ?_
      refine mh_iload_2 dX7_takes_23 (q := 24) rfl ?_
      refine mh_iald dX7_takes_24 (q := 25) rfl (shX7_6 h7) (vp_in_nI (by omega) (by decide)) ?_
      rw [hk q hq]
      refine mh_iconst_1 dX7_takes_25 (q := 26) rfl ?_
      refine mh_icmp_ne dX7_takes_26 (tgt := 42) (q := 29) rfl rfl (fun c26 => ?_) (fun c26 => ?_)
      · skip
        refine mh_iconst_0 dX7_takes_42 (q := 43) rfl ?_
        refine mh_ireturn dX7_takes_43 rfl rfl ?_
        exact hf (fun z => z.elim c7 (fun y => c26 y.2.1))
      · skip
        refine mh_aload_0 dX7_takes_29 (q := 30) rfl ?_
        refine mh_getR fl_X7_28 dX7_takes_30 (q := 33) rfl (shX7_0 h7) rfl ?_
        refine mh_iload_2 dX7_takes_33 (q := 34) rfl ?_
        refine mh_iald dX7_takes_34 (q := 35) rfl (shX7_7 h7) (vp_in_nI (by omega) (by decide)) ?_
        rw [hs q hq]
        refine mh_if_ne dX7_takes_35 (tgt := 42) (q := 38) rfl rfl (fun c35 => ?_) (fun c35 => ?_)
        · skip
          refine mh_iconst_0 dX7_takes_42 (q := 43) rfl ?_
          refine mh_ireturn dX7_takes_43 rfl rfl ?_
          exact hf (fun z => z.elim c7 (fun y => c35 y.2.2))
        · skip
          refine mh_iconst_1 dX7_takes_38 (q := 39) rfl ?_
          refine mh_goto dX7_takes_39 (tgt := 43) rfl ?_
          refine mh_ireturn dX7_takes_43 rfl rfl ?_
          exact ht (Or.inr ⟨by omega, c26, c35⟩)
set_option maxHeartbeats 4000000 in
set_option maxRecDepth 100000 in
theorem lp_X7_choice {l : Launch} {K : mhX} {kc ks : Nat} {Φ : mhQ} {S : List mhS} {F : mhF} {I : mhI} {J : mhJ} {P : mhP} (h7 : mhKX7 S) {j w h v r : Nat} {kd sm : Nat → Int32} {u : mhWk} (hm : mhHm I j w h) (hk : mhKn I j w h kd) (hs : smM I j w h sm) (hv : v < 8) (e38 : I 38 (nI v) = nI u.1) (e39 : I 39 (nI v) = nI j) (e40 : I 40 (nI v) = nI r) (e41 : I 41 (nI v) = nI u.2.2.2.1) (e46 : ∀ k, k < 43 → I 46 (nI (50 * v + k)) = u.2.2.2.2.2.2.2 k) (hk3 : u.1 < 3) (hr : r < gRooms w h) (hc : u.2.2.2.1 < 3) (hΦ : Φ (some (.int (onN (wkCh w h kd sm u.1 u.2.2.2.2.2.2.2 r u.2.2.2.1 3).1))) S F I J P) : ∀ (m q : Nat) (o6 o7 o8 : Option Value), q + m = 3 → mhV l K mX7_choice kc ks Φ 16 [some (.ref 21), some (.int (nI v)), some (.int (nI j)), some (.int (onN (wkCh w h kd sm u.1 u.2.2.2.2.2.2.2 r u.2.2.2.1 q).1)), some (.int (wkCh w h kd sm u.1 u.2.2.2.2.2.2.2 r u.2.2.2.1 q).2), some (.int (nI q)), o6, o7, o8] [] S F I J P := by
  have hbd := gBd hm.2.1
  have hj := hm.1
  intro m
  induction m with
  | zero =>
    intro q o6 o7 o8 hq
    obtain rfl : q = 3 := by omega
    refine mh_iload_5 dX7_choice_16 (q := 18) rfl ?_
    refine mh_iconst_3 dX7_choice_18 (q := 19) rfl ?_
    refine mh_icmp_ge dX7_choice_19 (tgt := 125) (q := 22) rfl rfl (fun _ => ?_) (fun hh => absurd (show (3 : Int32) ≤ nI 3 by decide) hh)
    refine mh_iload_3 dX7_choice_125 (q := 126) rfl ?_
    refine mh_ireturn dX7_choice_126 rfl rfl ?_
    exact hΦ
  | succ m ih =>
    intro q o6 o7 o8 hq
    have h9 := fun o6 o7 o8 => ih (q + 1) o6 o7 o8 (by omega)
    have t1 := (gT1 hm.2.1 hr (hnd_lt (r := r) (c := u.2.2.2.1) (k := q))).2.1
    have hn9 : ∀ x : Option Nat, (∀ d, x = some d → d < 3) → (onN x = -9 ↔ x = none) := fun x hx => by
      cases x with
      | none => exact ⟨fun _ => rfl, fun _ => rfl⟩
      | some d => exact ⟨fun z => absurd z (mh_n9 (by have := hx d rfl; omega)), fun z => by cases z⟩
    have hb9 := hn9 (wkCh w h kd sm u.1 u.2.2.2.2.2.2.2 r u.2.2.2.1 q).1 (fun d z => (wkCh_lt z).1)
    refine mh_iload_5 dX7_choice_16 (q := 18) rfl ?_
    refine mh_iconst_3 dX7_choice_18 (q := 19) rfl ?_
    refine mh_icmp_ge dX7_choice_19 (tgt := 125) (q := 22) rfl rfl (fun hh => absurd hh (show ¬ (3 : Int32) ≤ nI q from nI_ge (b := 3) (by omega) (by decide))) (fun _ => ?_)
    refine mh_aload_0 dX7_choice_22 (q := 23) rfl ?_
    refine mh_getR fl_X7_65 dX7_choice_23 (q := 26) rfl (shX7_0 h7) rfl ?_
    refine mh_iload_1 dX7_choice_26 (q := 27) rfl ?_
    refine mh_iald dX7_choice_27 (q := 28) rfl (shX7_19 h7) (vp_in_nI (by omega) (by decide)) ?_
    rw [e40]
    refine mh_aload_0 dX7_choice_28 (q := 29) rfl ?_
    refine mh_getR fl_X7_68 dX7_choice_29 (q := 32) rfl (shX7_0 h7) rfl ?_
    refine mh_iload_1 dX7_choice_32 (q := 33) rfl ?_
    refine mh_iald dX7_choice_33 (q := 34) rfl (shX7_20 h7) (vp_in_nI (by omega) (by decide)) ?_
    rw [e41]
    refine mh_iload_5 dX7_choice_34 (q := 36) rfl ?_
    refine mh_callS3 ca_X7_choice_36 (q := 39) rfl (by simp [Value.category]) ⟨Nat.zero_le _, Nat.zero_le _⟩ ?_
    refine sp_X7_hand (by omega) hc (by omega) ?_
    refine mh_istore_6 dX7_choice_39 (q := 41) rfl ?_
    refine mh_aload_0 dX7_choice_41 (q := 42) rfl ?_
    refine mh_iload_2 dX7_choice_42 (q := 43) rfl ?_
    refine mh_aload_0 dX7_choice_43 (q := 44) rfl ?_
    refine mh_getR fl_X7_65 dX7_choice_44 (q := 47) rfl (shX7_0 h7) rfl ?_
    refine mh_iload_1 dX7_choice_47 (q := 48) rfl ?_
    refine mh_iald dX7_choice_48 (q := 49) rfl (shX7_19 h7) (vp_in_nI (by omega) (by decide)) ?_
    rw [e40]
    refine mh_iload_6 dX7_choice_49 (q := 51) rfl ?_
    refine mh_callV3 ca_X7_choice_51 (shX7_0 h7) (q := 54) rfl (by simp [Value.category]) ⟨Nat.zero_le _, Nat.zero_le _⟩ ?_
    refine sp_X7_sideOf h7 hm hr hnd_lt ?_
    refine mh_istore_7 dX7_choice_54 (q := 56) rfl ?_
    refine mh_aload_0 dX7_choice_56 (q := 57) rfl ?_
    refine mh_getR fl_X7_59 dX7_choice_57 (q := 60) rfl (shX7_0 h7) rfl ?_
    refine mh_iload_1 dX7_choice_60 (q := 61) rfl ?_
    refine mh_iald dX7_choice_61 (q := 62) rfl (shX7_17 h7) (vp_in_nI (by omega) (by decide)) ?_
    rw [e38]
    refine mh_iconst_2 dX7_choice_62 (q := 63) rfl ?_
    refine mh_icmp_ne dX7_choice_63 (tgt := 81) (q := 66) rfl rfl (fun c63 => ?_) (fun c63 => ?_)
    · skip
      rw [show (2 : Int32) = nI 2 from rfl, nI_eq (by omega) (by decide)] at c63
      obtain ⟨ov, hov⟩ : ∃ ov : Int32, ov = 0 := ⟨_, rfl⟩
      have eo : ov = wkOf u.1 u.2.2.2.2.2.2.2 (gSide w h r (hnd r u.2.2.2.1 q)) := by rw [hov]; exact (if_neg c63).symm
      refine mh_iconst_0 dX7_choice_81 (q := 82) rfl ?_
      rw [← hov]
      refine mh_istore_8 dX7_choice_82 (q := 84) rfl ?_
      refine mh_aload_0 dX7_choice_84 (q := 85) rfl ?_
      refine mh_iload_1 dX7_choice_85 (q := 86) rfl ?_
      refine mh_bipush (v := 50) dX7_choice_86 (q := 88) rfl (by decide) ?_
      refine mh_iload_2 dX7_choice_88 (q := 89) rfl ?_
      refine mh_imul dX7_choice_89 (q := 90) rfl ?_
      refine mh_iload_7 dX7_choice_90 (q := 92) rfl ?_
      refine mh_iadd dX7_choice_92 (q := 93) rfl ?_
      rw [mh_e50]
      refine mh_callV2 ca_X7_choice_93 (shX7_0 h7) (q := 96) rfl (by simp [Value.category]) ⟨Nat.zero_le _, Nat.zero_le _⟩ ?_
      refine sp_X7_takes h7 (u := u) hm hk hs hv e38 hk3 t1 (fun ct => ?_) (fun ct => ?_)
      · skip
        refine mh_if_eq dX7_choice_96 (tgt := 119) (q := 99) rfl rfl (fun hh => False.elim (by revert hh; decide)) (fun _ => ?_)
        refine mh_iload_3 dX7_choice_99 (q := 100) rfl ?_
        refine mh_bipush (v := (-9)) dX7_choice_100 (q := 102) rfl (by decide) ?_
        refine mh_icmp_eq dX7_choice_102 (tgt := 112) (q := 105) rfl rfl (fun c102 => ?_) (fun c102 => ?_)
        · skip
          refine mh_iload_6 dX7_choice_112 (q := 114) rfl ?_
          refine mh_istore_3 dX7_choice_114 (q := 115) rfl ?_
          refine mh_iload_8 dX7_choice_115 (q := 117) rfl ?_
          refine mh_istore_4 dX7_choice_117 (q := 119) rfl ?_
          refine mh_iinc_5 (v := 1) dX7_choice_119 (q := 122) rfl (by decide) ?_
          refine mh_goto dX7_choice_122 (tgt := 16) rfl ?_
          rw [nI_1]
          rw [wkCh_t ⟨ct, Or.inl (hb9.mp c102)⟩] at h9
          rw [← eo] at h9
          exact h9 _ _ _
        · skip
          refine mh_iload_8 dX7_choice_105 (q := 107) rfl ?_
          refine mh_iload_4 dX7_choice_107 (q := 109) rfl ?_
          refine mh_icmp_ge dX7_choice_109 (tgt := 119) (q := 112) rfl rfl (fun c109 => ?_) (fun c109 => ?_)
          · skip
            refine mh_iinc_5 (v := 1) dX7_choice_119 (q := 122) rfl (by decide) ?_
            refine mh_goto dX7_choice_122 (tgt := 16) rfl ?_
            rw [nI_1]
            rw [wkCh_f (fun z => z.2.elim (fun y => c102 (hb9.mpr y)) (fun y => by rw [← eo] at y; exact absurd y (Int32.not_lt.mpr c109)))] at h9
            exact h9 _ _ _
          · skip
            refine mh_iload_6 dX7_choice_112 (q := 114) rfl ?_
            refine mh_istore_3 dX7_choice_114 (q := 115) rfl ?_
            refine mh_iload_8 dX7_choice_115 (q := 117) rfl ?_
            refine mh_istore_4 dX7_choice_117 (q := 119) rfl ?_
            refine mh_iinc_5 (v := 1) dX7_choice_119 (q := 122) rfl (by decide) ?_
            refine mh_goto dX7_choice_122 (tgt := 16) rfl ?_
            rw [nI_1]
            rw [wkCh_t ⟨ct, Or.inr (by rw [← eo]; exact Int32.not_le.mp c109)⟩] at h9
            rw [← eo] at h9
            exact h9 _ _ _
      · skip
        refine mh_if_eq dX7_choice_96 (tgt := 119) (q := 99) rfl rfl (fun _ => ?_) (fun hh => False.elim (by revert hh; decide))
        refine mh_iinc_5 (v := 1) dX7_choice_119 (q := 122) rfl (by decide) ?_
        refine mh_goto dX7_choice_122 (tgt := 16) rfl ?_
        rw [nI_1]
        rw [wkCh_f (fun z => ct z.1)] at h9
        exact h9 _ _ _
    · skip
      rw [show (2 : Int32) = nI 2 from rfl, nI_eq (by omega) (by decide)] at c63
      obtain ⟨ov, hov⟩ : ∃ ov : Int32, ov = u.2.2.2.2.2.2.2 (gSide w h r (hnd r u.2.2.2.1 q)) := ⟨_, rfl⟩
      have eo : ov = wkOf u.1 u.2.2.2.2.2.2.2 (gSide w h r (hnd r u.2.2.2.1 q)) := by rw [hov]; exact (if_pos c63).symm
      refine mh_aload_0 dX7_choice_66 (q := 67) rfl ?_
      refine mh_getR fl_X7_83 dX7_choice_67 (q := 70) rfl (shX7_0 h7) rfl ?_
      refine mh_bipush (v := 50) dX7_choice_70 (q := 72) rfl (by decide) ?_
      refine mh_iload_1 dX7_choice_72 (q := 73) rfl ?_
      refine mh_imul dX7_choice_73 (q := 74) rfl ?_
      refine mh_iload_7 dX7_choice_74 (q := 76) rfl ?_
      refine mh_iadd dX7_choice_76 (q := 77) rfl ?_
      refine mh_iald dX7_choice_77 (q := 78) rfl (shX7_25 h7) (by rw [mh_e50]; exact vp_in_nI (by omega) (by decide)) ?_
      rw [mh_e50, e46 _ (by omega), ← hov]
      refine mh_goto dX7_choice_78 (tgt := 82) rfl ?_
      refine mh_istore_8 dX7_choice_82 (q := 84) rfl ?_
      refine mh_aload_0 dX7_choice_84 (q := 85) rfl ?_
      refine mh_iload_1 dX7_choice_85 (q := 86) rfl ?_
      refine mh_bipush (v := 50) dX7_choice_86 (q := 88) rfl (by decide) ?_
      refine mh_iload_2 dX7_choice_88 (q := 89) rfl ?_
      refine mh_imul dX7_choice_89 (q := 90) rfl ?_
      refine mh_iload_7 dX7_choice_90 (q := 92) rfl ?_
      refine mh_iadd dX7_choice_92 (q := 93) rfl ?_
      rw [mh_e50]
      refine mh_callV2 ca_X7_choice_93 (shX7_0 h7) (q := 96) rfl (by simp [Value.category]) ⟨Nat.zero_le _, Nat.zero_le _⟩ ?_
      refine sp_X7_takes h7 (u := u) hm hk hs hv e38 hk3 t1 (fun ct => ?_) (fun ct => ?_)
      · skip
        refine mh_if_eq dX7_choice_96 (tgt := 119) (q := 99) rfl rfl (fun hh => False.elim (by revert hh; decide)) (fun _ => ?_)
        refine mh_iload_3 dX7_choice_99 (q := 100) rfl ?_
        refine mh_bipush (v := (-9)) dX7_choice_100 (q := 102) rfl (by decide) ?_
        refine mh_icmp_eq dX7_choice_102 (tgt := 112) (q := 105) rfl rfl (fun c102 => ?_) (fun c102 => ?_)
        · skip
          refine mh_iload_6 dX7_choice_112 (q := 114) rfl ?_
          refine mh_istore_3 dX7_choice_114 (q := 115) rfl ?_
          refine mh_iload_8 dX7_choice_115 (q := 117) rfl ?_
          refine mh_istore_4 dX7_choice_117 (q := 119) rfl ?_
          refine mh_iinc_5 (v := 1) dX7_choice_119 (q := 122) rfl (by decide) ?_
          refine mh_goto dX7_choice_122 (tgt := 16) rfl ?_
          rw [nI_1]
          rw [wkCh_t ⟨ct, Or.inl (hb9.mp c102)⟩] at h9
          rw [← eo] at h9
          exact h9 _ _ _
        · skip
          refine mh_iload_8 dX7_choice_105 (q := 107) rfl ?_
          refine mh_iload_4 dX7_choice_107 (q := 109) rfl ?_
          refine mh_icmp_ge dX7_choice_109 (tgt := 119) (q := 112) rfl rfl (fun c109 => ?_) (fun c109 => ?_)
          · skip
            refine mh_iinc_5 (v := 1) dX7_choice_119 (q := 122) rfl (by decide) ?_
            refine mh_goto dX7_choice_122 (tgt := 16) rfl ?_
            rw [nI_1]
            rw [wkCh_f (fun z => z.2.elim (fun y => c102 (hb9.mpr y)) (fun y => by rw [← eo] at y; exact absurd y (Int32.not_lt.mpr c109)))] at h9
            exact h9 _ _ _
          · skip
            refine mh_iload_6 dX7_choice_112 (q := 114) rfl ?_
            refine mh_istore_3 dX7_choice_114 (q := 115) rfl ?_
            refine mh_iload_8 dX7_choice_115 (q := 117) rfl ?_
            refine mh_istore_4 dX7_choice_117 (q := 119) rfl ?_
            refine mh_iinc_5 (v := 1) dX7_choice_119 (q := 122) rfl (by decide) ?_
            refine mh_goto dX7_choice_122 (tgt := 16) rfl ?_
            rw [nI_1]
            rw [wkCh_t ⟨ct, Or.inr (by rw [← eo]; exact Int32.not_le.mp c109)⟩] at h9
            rw [← eo] at h9
            exact h9 _ _ _
      · skip
        refine mh_if_eq dX7_choice_96 (tgt := 119) (q := 99) rfl rfl (fun _ => ?_) (fun hh => False.elim (by revert hh; decide))
        refine mh_iinc_5 (v := 1) dX7_choice_119 (q := 122) rfl (by decide) ?_
        refine mh_goto dX7_choice_122 (tgt := 16) rfl ?_
        rw [nI_1]
        rw [wkCh_f (fun z => ct z.1)] at h9
        exact h9 _ _ _
set_option maxHeartbeats 4000000 in
set_option maxRecDepth 100000 in
theorem sp_X7_choice {l : Launch} {K : mhX} {Φ : mhQ} {S : List mhS} {F : mhF} {I : mhI} {J : mhJ} {P : mhP} (h7 : mhKX7 S) {j w h v r : Nat} {kd sm : Nat → Int32} {u : mhWk} (hm : mhHm I j w h) (hk : mhKn I j w h kd) (hs : smM I j w h sm) (hv : v < 8) (e38 : I 38 (nI v) = nI u.1) (e39 : I 39 (nI v) = nI j) (e40 : I 40 (nI v) = nI r) (e41 : I 41 (nI v) = nI u.2.2.2.1) (e46 : ∀ k, k < 43 → I 46 (nI (50 * v + k)) = u.2.2.2.2.2.2.2 k) (hk3 : u.1 < 3) (hr : r < gRooms w h) (hc : u.2.2.2.1 < 3) (hΦ : Φ (some (.int (onN (wkCh w h kd sm u.1 u.2.2.2.2.2.2.2 r u.2.2.2.1 3).1))) S F I J P) : mhOk l K mX7_choice [.ref 21, .int (nI v)] S F I J P Φ := by
  refine mhOk.of (by decide) (by decide) rfl (Nat.le_of_ble_eq_true rfl) ?_
  refine mh_aload_0 dX7_choice_0 (q := 1) rfl ?_
  refine mh_getR fl_X7_62 dX7_choice_1 (q := 4) rfl (shX7_0 h7) rfl ?_
  refine mh_iload_1 dX7_choice_4 (q := 5) rfl ?_
  refine mh_iald dX7_choice_5 (q := 6) rfl (shX7_18 h7) (vp_in_nI (by omega) (by decide)) ?_
  rw [e39]
  refine mh_istore_2 dX7_choice_6 (q := 7) rfl ?_
  refine mh_bipush (v := (-9)) dX7_choice_7 (q := 9) rfl (by decide) ?_
  refine mh_istore_3 dX7_choice_9 (q := 10) rfl ?_
  refine mh_iconst_0 dX7_choice_10 (q := 11) rfl ?_
  refine mh_istore_4 dX7_choice_11 (q := 13) rfl ?_
  refine mh_iconst_0 dX7_choice_13 (q := 14) rfl ?_
  refine mh_istore_5 dX7_choice_14 (q := 16) rfl ?_
  exact lp_X7_choice (kc := mX7_choice.2.2.2.2.cells) (ks := mX7_choice.2.2.2.2.slots) h7 hm hk hs hv e38 e39 e40 e41 e46 hk3 hr hc hΦ 3 0 _ _ _ rfl
set_option maxHeartbeats 4000000 in
set_option maxRecDepth 100000 in
theorem sp_X7_walk {l : Launch} {K : mhX} {Φ : mhQ} {S : List mhS} {F : mhF} {I : mhI} {J : mhJ} {P : mhP} (h7 : mhKX7 S) {j w h v r : Nat} {kd sm : Nat → Int32} {u : mhWk} (hm : mhHm I j w h) (hk : mhKn I j w h kd) (hs : smM I j w h sm) (hv : v < 8) (hu : wmO I v u) (euj : u.2.1 = j) (hk3 : u.1 < 3) (hr : r < gRooms w h) (er : u.2.2.1 = nI r) (hc : u.2.2.2.1 < 3) (hΦ : ∀ I2 : mhI, wmO I2 v (wkStep w h kd sm u).1 → smM I2 j w h (wkStep w h kd sm u).2 → frX v j I I2 → Φ none S F I2 J P) : mhOk l K mX7_walk [.ref 21, .int (nI v)] S F I J P Φ := by
  refine mhOk.of (by decide) (by decide) rfl (Nat.le_of_ble_eq_true rfl) ?_
  have hbd := gBd hm.2.1
  have hj := hm.1
  obtain ⟨w1, w2, w3, w4, w5, w6, w7, w8, w9⟩ := id hu
  have w2u := w2
  rw [euj] at w2
  refine mh_aload_0 dX7_walk_0 (q := 1) rfl ?_
  refine mh_getR fl_X7_62 dX7_walk_1 (q := 4) rfl (shX7_0 h7) rfl ?_
  refine mh_iload_1 dX7_walk_4 (q := 5) rfl ?_
  refine mh_iald dX7_walk_5 (q := 6) rfl (shX7_18 h7) (vp_in_nI (by omega) (by decide)) ?_
  rw [w2]
  refine mh_istore_2 dX7_walk_6 (q := 7) rfl ?_
  refine mh_aload_0 dX7_walk_7 (q := 8) rfl ?_
  refine mh_getR fl_X7_77 dX7_walk_8 (q := 11) rfl (shX7_0 h7) rfl ?_
  refine mh_iload_1 dX7_walk_11 (q := 12) rfl ?_
  refine mh_dup2ir dX7_walk_12 (q := 13) rfl ?_
  refine mh_iald dX7_walk_13 (q := 14) rfl (shX7_23 h7) (vp_in_nI (by omega) (by decide)) ?_
  rw [w7]
  refine mh_iconst_1 dX7_walk_14 (q := 15) rfl ?_
  refine mh_iadd dX7_walk_15 (q := 16) rfl ?_
  refine mh_iast dX7_walk_16 (q := 17) rfl (shX7_23 h7) (by decide) (vp_in_nI (by omega) (by decide)) ?_
  obtain ⟨I1, hI1⟩ : ∃ z, z = mhUI I 44 (nI v) (u.2.2.2.2.2.2.1 + 1) := ⟨_, rfl⟩
  rw [← hI1]
  have q1 : ∀ c y, ¬ (c = 44 ∧ y = (nI v)) → I1 c y = I c y := fun c y e => by rw [hI1]; exact if_neg e
  have x1 : I1 44 (nI v) = (u.2.2.2.2.2.2.1 + 1) := by rw [hI1]; exact if_pos ⟨rfl, rfl⟩
  have g1 : frX v j I I1 := by rw [hI1]; exact frX.u4 (by decide) (by decide)
  refine mh_aload_0 dX7_walk_17 (q := 18) rfl ?_
  refine mh_iload_1 dX7_walk_18 (q := 19) rfl ?_
  refine mh_callV1 ca_X7_walk_19 (shX7_0 h7) (q := 22) rfl (by simp [Value.category]) ⟨Nat.zero_le _, Nat.zero_le _⟩ ?_
  refine sp_X7_choice h7 (hm.frx g1) (hk.frx g1) (fun k hk => (q1 _ _ (by omega)).trans (hs k hk)) hv ((q1 _ _ (by omega)).trans w1) ((q1 _ _ (by omega)).trans w2) ((q1 _ _ (by omega)).trans (w3.trans er)) ((q1 _ _ (by omega)).trans w4) (fun k hk => (q1 _ _ (by omega)).trans (w9 k hk)) hk3 hr hc ?_
  rcases hch : (wkCh w h kd sm u.1 u.2.2.2.2.2.2.2 r u.2.2.2.1 3).1 with _ | d
  · skip
    dsimp only [onN]
    refine mh_istore_3 dX7_walk_22 (q := 23) rfl ?_
    refine mh_iload_3 dX7_walk_23 (q := 24) rfl ?_
    refine mh_bipush (v := (-9)) dX7_walk_24 (q := 26) rfl (by decide) ?_
    refine mh_icmp_ne dX7_walk_26 (tgt := 30) (q := 29) rfl rfl (fun hh => False.elim (by revert hh; decide)) (fun _ => ?_)
    refine mh_return dX7_walk_29 rfl ?_
    unfold wkStep at hΦ
    rw [er, nI_clamp (by omega), hch] at hΦ
    dsimp only at hΦ
    refine hΦ I1 ⟨(q1 _ _ (by omega)).trans w1, (q1 _ _ (by omega)).trans w2u, (q1 _ _ (by omega)).trans (w3.trans er), (q1 _ _ (by omega)).trans w4, (q1 _ _ (by omega)).trans w5, (q1 _ _ (by omega)).trans w6, x1, ?_, fun k hk => (q1 _ _ (by omega)).trans (w9 k hk)⟩ (fun k hk => (q1 _ _ (by omega)).trans (hs k hk)) g1
    rw [q1 _ _ (by omega), w8, er]
    dsimp only
    rw [if_neg (mh_n9 (by omega)), if_neg (mh_n9 (by omega))]
  · skip
    have hd := (wkCh_lt hch).1
    have t1 := (gT1 hm.2.1 hr hd).2.1
    dsimp only [onN]
    refine mh_istore_3 dX7_walk_22 (q := 23) rfl ?_
    refine mh_iload_3 dX7_walk_23 (q := 24) rfl ?_
    refine mh_bipush (v := (-9)) dX7_walk_24 (q := 26) rfl (by decide) ?_
    refine mh_icmp_ne dX7_walk_26 (tgt := 30) (q := 29) rfl rfl (fun _ => ?_) (fun hh => absurd hh (mh_n9 (by omega)))
    refine mh_aload_0 dX7_walk_30 (q := 31) rfl ?_
    refine mh_iload_2 dX7_walk_31 (q := 32) rfl ?_
    refine mh_aload_0 dX7_walk_32 (q := 33) rfl ?_
    refine mh_getR fl_X7_65 dX7_walk_33 (q := 36) rfl (shX7_0 h7) rfl ?_
    refine mh_iload_1 dX7_walk_36 (q := 37) rfl ?_
    refine mh_iald dX7_walk_37 (q := 38) rfl (shX7_19 h7) (vp_in_nI (by omega) (by decide)) ?_
    rw [q1 40 _ (by omega)]
    rw [w3, er]
    refine mh_iload_3 dX7_walk_38 (q := 39) rfl ?_
    refine mh_callV3 ca_X7_walk_39 (shX7_0 h7) (q := 42) rfl (by simp [Value.category]) ⟨Nat.zero_le _, Nat.zero_le _⟩ ?_
    refine sp_X7_sideOf h7 (hm.frx g1) hr hd ?_
    refine mh_istore_4 dX7_walk_42 (q := 44) rfl ?_
    refine mh_aload_0 dX7_walk_44 (q := 45) rfl ?_
    refine mh_getR fl_X7_83 dX7_walk_45 (q := 48) rfl (shX7_0 h7) rfl ?_
    refine mh_bipush (v := 50) dX7_walk_48 (q := 50) rfl (by decide) ?_
    refine mh_iload_1 dX7_walk_50 (q := 51) rfl ?_
    refine mh_imul dX7_walk_51 (q := 52) rfl ?_
    refine mh_iload_4 dX7_walk_52 (q := 54) rfl ?_
    refine mh_iadd dX7_walk_54 (q := 55) rfl ?_
    rw [mh_e50]
    refine mh_dup2ir dX7_walk_55 (q := 56) rfl ?_
    refine mh_iald dX7_walk_56 (q := 57) rfl (shX7_25 h7) (vp_in_nI (by omega) (by decide)) ?_
    rw [q1 46 _ (by omega), w9 _ (by omega)]
    refine mh_iconst_1 dX7_walk_57 (q := 58) rfl ?_
    refine mh_iadd dX7_walk_58 (q := 59) rfl ?_
    refine mh_iast dX7_walk_59 (q := 60) rfl (shX7_25 h7) (by decide) (vp_in_nI (by omega) (by decide)) ?_
    obtain ⟨I2, hI2⟩ : ∃ z, z = mhUI I1 46 (nI (50 * v + gSide w h r d)) (u.2.2.2.2.2.2.2 (gSide w h r d) + 1) := ⟨_, rfl⟩
    rw [← hI2]
    have q2 : ∀ c y, ¬ (c = 46 ∧ y = (nI (50 * v + gSide w h r d))) → I2 c y = I1 c y := fun c y e => by rw [hI2]; exact if_neg e
    have x2 : I2 46 (nI (50 * v + gSide w h r d)) = (u.2.2.2.2.2.2.2 (gSide w h r d) + 1) := by rw [hI2]; exact if_pos ⟨rfl, rfl⟩
    have g2 : frX v j I I2 := g1.tr (by rw [hI2]; exact frX.u46 (by omega))
    refine mh_aload_0 dX7_walk_60 (q := 61) rfl ?_
    refine mh_getR fl_X7_25 dX7_walk_61 (q := 64) rfl (shX7_0 h7) rfl ?_
    refine mh_bipush (v := 50) dX7_walk_64 (q := 66) rfl (by decide) ?_
    refine mh_iload_2 dX7_walk_66 (q := 67) rfl ?_
    refine mh_imul dX7_walk_67 (q := 68) rfl ?_
    refine mh_iload_4 dX7_walk_68 (q := 70) rfl ?_
    refine mh_iadd dX7_walk_70 (q := 71) rfl ?_
    refine mh_iald dX7_walk_71 (q := 72) rfl (shX7_6 h7) (by rw [mh_e50]; exact vp_in_nI (by omega) (by decide)) ?_
    rw [mh_e50, q2 27 _ (by omega), q1 27 _ (by omega), hk _ t1]
    refine mh_iconst_1 dX7_walk_72 (q := 73) rfl ?_
    refine mh_icmp_ne dX7_walk_73 (tgt := 100) (q := 76) rfl rfl (fun c73 => ?_) (fun c73 => ?_)
    · skip
      refine mh_aload_0 dX7_walk_100 (q := 101) rfl ?_
      refine mh_getR fl_X7_65 dX7_walk_101 (q := 104) rfl (shX7_0 h7) rfl ?_
      refine mh_iload_1 dX7_walk_104 (q := 105) rfl ?_
      refine mh_aload_0 dX7_walk_105 (q := 106) rfl ?_
      refine mh_iload_2 dX7_walk_106 (q := 107) rfl ?_
      refine mh_aload_0 dX7_walk_107 (q := 108) rfl ?_
      refine mh_getR fl_X7_65 dX7_walk_108 (q := 111) rfl (shX7_0 h7) rfl ?_
      refine mh_iload_1 dX7_walk_111 (q := 112) rfl ?_
      refine mh_iald dX7_walk_112 (q := 113) rfl (shX7_19 h7) (vp_in_nI (by omega) (by decide)) ?_
      rw [q2 40 _ (by omega), q1 40 _ (by omega)]
      rw [w3, er]
      refine mh_iload_3 dX7_walk_113 (q := 114) rfl ?_
      refine mh_callV3 ca_X7_walk_114 (shX7_0 h7) (q := 117) rfl (by simp [Value.category]) ⟨Nat.zero_le _, Nat.zero_le _⟩ ?_
      refine sp_X7_behind h7 (hm.frx g2) hr hd ?_
      refine mh_iast dX7_walk_117 (q := 118) rfl (shX7_19 h7) (by decide) (vp_in_nI (by omega) (by decide)) ?_
      obtain ⟨I3, hI3⟩ : ∃ z, z = mhUI I2 40 (nI v) (gB w h r d) := ⟨_, rfl⟩
      rw [← hI3]
      have q3 : ∀ c y, ¬ (c = 40 ∧ y = (nI v)) → I3 c y = I2 c y := fun c y e => by rw [hI3]; exact if_neg e
      have x3 : I3 40 (nI v) = (gB w h r d) := by rw [hI3]; exact if_pos ⟨rfl, rfl⟩
      have g3 : frX v j I I3 := g2.tr (by rw [hI3]; exact frX.u4 (by decide) (by decide))
      refine mh_aload_0 dX7_walk_118 (q := 119) rfl ?_
      refine mh_getR fl_X7_68 dX7_walk_119 (q := 122) rfl (shX7_0 h7) rfl ?_
      refine mh_iload_1 dX7_walk_122 (q := 123) rfl ?_
      refine mh_iload_3 dX7_walk_123 (q := 124) rfl ?_
      refine mh_iast dX7_walk_124 (q := 125) rfl (shX7_20 h7) (by decide) (vp_in_nI (by omega) (by decide)) ?_
      obtain ⟨I4, hI4⟩ : ∃ z, z = mhUI I3 41 (nI v) (nI d) := ⟨_, rfl⟩
      rw [← hI4]
      have q4 : ∀ c y, ¬ (c = 41 ∧ y = (nI v)) → I4 c y = I3 c y := fun c y e => by rw [hI4]; exact if_neg e
      have x4 : I4 41 (nI v) = (nI d) := by rw [hI4]; exact if_pos ⟨rfl, rfl⟩
      have g4 : frX v j I I4 := g3.tr (by rw [hI4]; exact frX.u4 (by decide) (by decide))
      refine mh_aload_0 dX7_walk_125 (q := 126) rfl ?_
      refine mh_getR fl_X7_71 dX7_walk_126 (q := 129) rfl (shX7_0 h7) rfl ?_
      refine mh_iload_1 dX7_walk_129 (q := 130) rfl ?_
      refine mh_dup2ir dX7_walk_130 (q := 131) rfl ?_
      refine mh_iald dX7_walk_131 (q := 132) rfl (shX7_21 h7) (vp_in_nI (by omega) (by decide)) ?_
      rw [q4 42 _ (by omega), q3 42 _ (by omega), q2 42 _ (by omega), q1 42 _ (by omega)]
      rw [w5]
      refine mh_iconst_1 dX7_walk_132 (q := 133) rfl ?_
      refine mh_iadd dX7_walk_133 (q := 134) rfl ?_
      refine mh_iast dX7_walk_134 (q := 135) rfl (shX7_21 h7) (by decide) (vp_in_nI (by omega) (by decide)) ?_
      obtain ⟨I5, hI5⟩ : ∃ z, z = mhUI I4 42 (nI v) (u.2.2.2.2.1 + 1) := ⟨_, rfl⟩
      rw [← hI5]
      have q5 : ∀ c y, ¬ (c = 42 ∧ y = (nI v)) → I5 c y = I4 c y := fun c y e => by rw [hI5]; exact if_neg e
      have x5 : I5 42 (nI v) = (u.2.2.2.2.1 + 1) := by rw [hI5]; exact if_pos ⟨rfl, rfl⟩
      have g5 : frX v j I I5 := g4.tr (by rw [hI5]; exact frX.u4 (by decide) (by decide))
      refine mh_aload_0 dX7_walk_135 (q := 136) rfl ?_
      refine mh_getR fl_X7_65 dX7_walk_136 (q := 139) rfl (shX7_0 h7) rfl ?_
      refine mh_iload_1 dX7_walk_139 (q := 140) rfl ?_
      refine mh_iald dX7_walk_140 (q := 141) rfl (shX7_19 h7) (vp_in_nI (by omega) (by decide)) ?_
      rw [q5 40 _ (by omega), q4 40 _ (by omega), x3]
      refine mh_bipush (v := (-9)) dX7_walk_141 (q := 143) rfl (by decide) ?_
      refine mh_icmp_ne dX7_walk_143 (tgt := 158) (q := 146) rfl rfl (fun c143 => ?_) (fun c143 => ?_)
      · skip
        refine mh_return dX7_walk_158 rfl ?_
        unfold wkStep at hΦ
        rw [er, nI_clamp (by omega), hch] at hΦ
        dsimp only at hΦ
        rw [if_neg c73] at hΦ
        exact hΦ I5 ⟨(by rw [q5 38 _ (by omega), q4 38 _ (by omega), q3 38 _ (by omega), q2 38 _ (by omega), q1 38 _ (by omega)]; assumption), (by rw [q5 39 _ (by omega), q4 39 _ (by omega), q3 39 _ (by omega), q2 39 _ (by omega), q1 39 _ (by omega)]; assumption), (by rw [q5 40 _ (by omega), q4 40 _ (by omega), x3]), (by rw [q5 41 _ (by omega), x4]), x5, (by rw [q5 43 _ (by omega), q4 43 _ (by omega), q3 43 _ (by omega), q2 43 _ (by omega), q1 43 _ (by omega)]; assumption), (by rw [q5 44 _ (by omega), q4 44 _ (by omega), q3 44 _ (by omega), q2 44 _ (by omega), x1]), (by
          dsimp only
          rw [if_neg c143, q5 45 _ (by omega), q4 45 _ (by omega), q3 45 _ (by omega), q2 45 _ (by omega), q1 45 _ (by omega), w8, er, if_neg (mh_n9 (by omega))]), (fun k hk => by
          unfold upN
          dsimp only
          by_cases e : k = gSide w h r d
          · rw [if_pos e, e]; rw [q5 46 _ (by omega), q4 46 _ (by omega), q3 46 _ (by omega), x2]
          · rw [if_neg e]; rw [q5 46 _ (by omega), q4 46 _ (by omega), q3 46 _ (by omega), q2 46 _ (fun z => e (by have := (nI_eq (by omega) (by omega)).mp z.2; omega)), q1 46 _ (by omega)]; exact w9 k hk)⟩ (fun k hk => by rw [q5 28 _ (by omega), q4 28 _ (by omega), q3 28 _ (by omega), q2 28 _ (by omega), q1 28 _ (by omega)]; exact hs k hk) g5
      · skip
        refine mh_aload_0 dX7_walk_146 (q := 147) rfl ?_
        refine mh_getR fl_X7_80 dX7_walk_147 (q := 150) rfl (shX7_0 h7) rfl ?_
        refine mh_iload_1 dX7_walk_150 (q := 151) rfl ?_
        refine mh_aload_0 dX7_walk_151 (q := 152) rfl ?_
        refine mh_getR fl_X7_77 dX7_walk_152 (q := 155) rfl (shX7_0 h7) rfl ?_
        refine mh_iload_1 dX7_walk_155 (q := 156) rfl ?_
        refine mh_iald dX7_walk_156 (q := 157) rfl (shX7_23 h7) (vp_in_nI (by omega) (by decide)) ?_
        rw [q5 44 _ (by omega), q4 44 _ (by omega), q3 44 _ (by omega), q2 44 _ (by omega), x1]
        refine mh_iast dX7_walk_157 (q := 158) rfl (shX7_24 h7) (by decide) (vp_in_nI (by omega) (by decide)) ?_
        obtain ⟨I6, hI6⟩ : ∃ z, z = mhUI I5 45 (nI v) (u.2.2.2.2.2.2.1 + 1) := ⟨_, rfl⟩
        rw [← hI6]
        have q6 : ∀ c y, ¬ (c = 45 ∧ y = (nI v)) → I6 c y = I5 c y := fun c y e => by rw [hI6]; exact if_neg e
        have x6 : I6 45 (nI v) = (u.2.2.2.2.2.2.1 + 1) := by rw [hI6]; exact if_pos ⟨rfl, rfl⟩
        have g6 : frX v j I I6 := g5.tr (by rw [hI6]; exact frX.u4 (by decide) (by decide))
        refine mh_return dX7_walk_158 rfl ?_
        unfold wkStep at hΦ
        rw [er, nI_clamp (by omega), hch] at hΦ
        dsimp only at hΦ
        rw [if_neg c73] at hΦ
        exact hΦ I6 ⟨(by rw [q6 38 _ (by omega), q5 38 _ (by omega), q4 38 _ (by omega), q3 38 _ (by omega), q2 38 _ (by omega), q1 38 _ (by omega)]; assumption), (by rw [q6 39 _ (by omega), q5 39 _ (by omega), q4 39 _ (by omega), q3 39 _ (by omega), q2 39 _ (by omega), q1 39 _ (by omega)]; assumption), (by rw [q6 40 _ (by omega), q5 40 _ (by omega), q4 40 _ (by omega), x3]), (by rw [q6 41 _ (by omega), q5 41 _ (by omega), x4]), (by rw [q6 42 _ (by omega), x5]), (by rw [q6 43 _ (by omega), q5 43 _ (by omega), q4 43 _ (by omega), q3 43 _ (by omega), q2 43 _ (by omega), q1 43 _ (by omega)]; assumption), (by rw [q6 44 _ (by omega), q5 44 _ (by omega), q4 44 _ (by omega), q3 44 _ (by omega), q2 44 _ (by omega), x1]), (by dsimp only; rw [if_pos c143]; exact x6), (fun k hk => by
          unfold upN
          dsimp only
          by_cases e : k = gSide w h r d
          · rw [if_pos e, e]; rw [q6 46 _ (by omega), q5 46 _ (by omega), q4 46 _ (by omega), q3 46 _ (by omega), x2]
          · rw [if_neg e]; rw [q6 46 _ (by omega), q5 46 _ (by omega), q4 46 _ (by omega), q3 46 _ (by omega), q2 46 _ (fun z => e (by have := (nI_eq (by omega) (by omega)).mp z.2; omega)), q1 46 _ (by omega)]; exact w9 k hk)⟩ (fun k hk => by rw [q6 28 _ (by omega), q5 28 _ (by omega), q4 28 _ (by omega), q3 28 _ (by omega), q2 28 _ (by omega), q1 28 _ (by omega)]; exact hs k hk) g6
    · skip
      refine mh_aload_0 dX7_walk_76 (q := 77) rfl ?_
      refine mh_getR fl_X7_28 dX7_walk_77 (q := 80) rfl (shX7_0 h7) rfl ?_
      refine mh_bipush (v := 50) dX7_walk_80 (q := 82) rfl (by decide) ?_
      refine mh_iload_2 dX7_walk_82 (q := 83) rfl ?_
      refine mh_imul dX7_walk_83 (q := 84) rfl ?_
      refine mh_iload_4 dX7_walk_84 (q := 86) rfl ?_
      refine mh_iadd dX7_walk_86 (q := 87) rfl ?_
      rw [mh_e50]
      refine mh_iconst_1 dX7_walk_87 (q := 88) rfl ?_
      refine mh_iast dX7_walk_88 (q := 89) rfl (shX7_7 h7) (by decide) (vp_in_nI (by omega) (by decide)) ?_
      obtain ⟨I3, hI3⟩ : ∃ z, z = mhUI I2 28 (nI (50 * j + gSide w h r d)) 1 := ⟨_, rfl⟩
      rw [← hI3]
      have q3 : ∀ c y, ¬ (c = 28 ∧ y = (nI (50 * j + gSide w h r d))) → I3 c y = I2 c y := fun c y e => by rw [hI3]; exact if_neg e
      have x3 : I3 28 (nI (50 * j + gSide w h r d)) = 1 := by rw [hI3]; exact if_pos ⟨rfl, rfl⟩
      have g3 : frX v j I I3 := g2.tr (by rw [hI3]; exact frX.u28 (by omega))
      refine mh_aload_0 dX7_walk_89 (q := 90) rfl ?_
      refine mh_getR fl_X7_74 dX7_walk_90 (q := 93) rfl (shX7_0 h7) rfl ?_
      refine mh_iload_1 dX7_walk_93 (q := 94) rfl ?_
      refine mh_dup2ir dX7_walk_94 (q := 95) rfl ?_
      refine mh_iald dX7_walk_95 (q := 96) rfl (shX7_22 h7) (vp_in_nI (by omega) (by decide)) ?_
      rw [q3 43 _ (by omega), q2 43 _ (by omega), q1 43 _ (by omega)]
      rw [w6]
      refine mh_iconst_1 dX7_walk_96 (q := 97) rfl ?_
      refine mh_iadd dX7_walk_97 (q := 98) rfl ?_
      refine mh_iast dX7_walk_98 (q := 99) rfl (shX7_22 h7) (by decide) (vp_in_nI (by omega) (by decide)) ?_
      obtain ⟨I4, hI4⟩ : ∃ z, z = mhUI I3 43 (nI v) (u.2.2.2.2.2.1 + 1) := ⟨_, rfl⟩
      rw [← hI4]
      have q4 : ∀ c y, ¬ (c = 43 ∧ y = (nI v)) → I4 c y = I3 c y := fun c y e => by rw [hI4]; exact if_neg e
      have x4 : I4 43 (nI v) = (u.2.2.2.2.2.1 + 1) := by rw [hI4]; exact if_pos ⟨rfl, rfl⟩
      have g4 : frX v j I I4 := g3.tr (by rw [hI4]; exact frX.u4 (by decide) (by decide))
      refine mh_return dX7_walk_99 rfl ?_
      unfold wkStep at hΦ
      rw [er, nI_clamp (by omega), hch] at hΦ
      dsimp only at hΦ
      rw [if_pos c73] at hΦ
      refine hΦ I4 ⟨(by rw [q4 38 _ (by omega), q3 38 _ (by omega), q2 38 _ (by omega), q1 38 _ (by omega)]; assumption), (by rw [q4 39 _ (by omega), q3 39 _ (by omega), q2 39 _ (by omega), q1 39 _ (by omega)]; assumption), (by rw [q4 40 _ (by omega), q3 40 _ (by omega), q2 40 _ (by omega), q1 40 _ (by omega)]; exact w3.trans er), (by rw [q4 41 _ (by omega), q3 41 _ (by omega), q2 41 _ (by omega), q1 41 _ (by omega)]; assumption), (by rw [q4 42 _ (by omega), q3 42 _ (by omega), q2 42 _ (by omega), q1 42 _ (by omega)]; assumption), x4, (by rw [q4 44 _ (by omega), q3 44 _ (by omega), q2 44 _ (by omega), x1]), ?_, (fun k hk => by
        unfold upN
        dsimp only
        by_cases e : k = gSide w h r d
        · rw [if_pos e, e]; rw [q4 46 _ (by omega), q3 46 _ (by omega), x2]
        · rw [if_neg e]; rw [q4 46 _ (by omega), q3 46 _ (by omega), q2 46 _ (fun z => e (by have := (nI_eq (by omega) (by omega)).mp z.2; omega)), q1 46 _ (by omega)]; exact w9 k hk)⟩ (fun k hk => ?_) g4
      · rw [q4 45 _ (by omega), q3 45 _ (by omega), q2 45 _ (by omega), q1 45 _ (by omega), w8, er]
        dsimp only
        rw [if_neg (mh_n9 (by omega)), if_neg (mh_n9 (by omega))]
      · unfold upN
        dsimp only
        by_cases e : k = gSide w h r d
        · rw [if_pos e, e, q4 28 _ (by omega), x3]
        · rw [if_neg e, q4 28 _ (by omega), q3 28 _ (fun z => e (by have := (nI_eq (by omega) (by omega)).mp z.2; omega)), q2 28 _ (by omega), q1 28 _ (by omega)]; exact hs k hk
def frY (j : Nat) (I I2 : mhI) : Prop := (∀ c y, c ≠ 28 → ¬ (40 ≤ c ∧ c ≤ 46) → I2 c y = I c y) ∧ ∀ y, (∀ k, k < 50 → y ≠ nI (50 * j + k)) → I2 28 y = I 28 y
theorem frY.rf {j : Nat} {I : mhI} : frY j I I := ⟨fun _ _ _ _ => rfl, fun _ _ => rfl⟩
theorem frY.tr {j : Nat} {I I1 I2 : mhI} (h : frY j I I1) (h2 : frY j I1 I2) : frY j I I2 := ⟨fun c y e1 e2 => (h2.1 c y e1 e2).trans (h.1 c y e1 e2), fun y e => (h2.2 y e).trans (h.2 y e)⟩
theorem frX.y {v j : Nat} {I I2 : mhI} (h : frX v j I I2) : frY j I I2 := ⟨fun c y e1 e2 => h.m e1 e2 y, fun y e => h 28 y (fun ⟨_, k, z1, z2⟩ => e k z1 z2) (fun z => absurd z.1 (by decide)) (fun z => absurd z.1 (by decide))⟩
theorem mhHm.fry {j i w h : Nat} {I I2 : mhI} (hf : frY j I I2) (H : mhHm I i w h) : mhHm I2 i w h := ⟨H.1, H.2.1, (hf.1 _ _ (by decide) (by decide)).trans H.2.2.1, (hf.1 _ _ (by decide) (by decide)).trans H.2.2.2⟩
theorem mhKn.fry {j i w h : Nat} {kd : Nat → Int32} {I I2 : mhI} (hf : frY j I I2) (H : mhKn I i w h kd) : mhKn I2 i w h kd := fun k hk => (hf.1 _ _ (by decide) (by decide)).trans (H k hk)
set_option maxHeartbeats 4000000 in
set_option maxRecDepth 100000 in
theorem lp_X7_tickA {l : Launch} {K : mhX} {kc ks : Nat} {Φ : mhQ} {S : List mhS} {J : mhJ} {P : mhP} (h7 : mhKX7 S) {nw nh j w h n : Nat} {wd hg : Nat → Nat} {kd : Nat → Int32} (hn2 : n ≤ 200) (hnh : nh ≤ 3) (hj : j < nh) (ew : wd j = w) (eh : hg j = h) (g : gOk w h) {σ : (Nat → mhWk) × (Nat → Int32)} (hv0 : ∀ v, v < nw → vWk nh wd hg (σ.1 v)) {t : Nat} {F : mhF} : ∀ (m v : Nat) (I : mhI), v + m = nw → mhHm I j w h → mhKn I j w h kd → mhWM F I nw (wkTick w h j kd v σ).1 → smM I j w h (wkTick w h j kd v σ).2 → (∀ I2 : mhI, mhWM F I2 nw (wkTick w h j kd nw σ).1 → smM I2 j w h (wkTick w h j kd nw σ).2 → frY j I I2 → mhV l K mX7_ticks kc ks Φ 78 [some (.ref 21), some (.int (nI j)), some (.int (nI n)), some (.int (nI t)), some (.int (nI nw))] [] S F I2 J P) → mhV l K mX7_ticks kc ks Φ 34 [some (.ref 21), some (.int (nI j)), some (.int (nI n)), some (.int (nI t)), some (.int (nI v))] [] S F I J P := by
  intro m
  induction m with
  | zero =>
    intro v I hv hm hk hW hs hΦ
    have hn8 := hW.1
    obtain rfl : v = nw := by omega
    refine mh_iload_4 dX7_ticks_34 (q := 36) rfl ?_
    refine mh_aload_0 dX7_ticks_36 (q := 37) rfl ?_
    refine mh_getI fl_X7_219 dX7_ticks_37 (q := 40) rfl (shX7_0 h7) rfl ?_
    rw [hW.2.1]
    refine mh_icmp_ge dX7_ticks_40 (tgt := 78) (q := 43) rfl rfl (fun _ => ?_) (fun hh => absurd (nI_le (Nat.le_refl _) (by omega)) hh)
    exact hΦ I hW hs frY.rf
  | succ m ih =>
    intro v I hvm hm hk hW hs hΦ
    have hn8 := hW.1
    have hv : v < nw := by omega
    have h9 := ih (v + 1)
    have hvv := wkTick_v (nh := nh) (wd := wd) (hg := hg) (j := j) (kd := kd) (by rw [ew, eh]; exact g) hv0 (n := v) (by omega) v hv
    rw [ew, eh] at hvv
    have hl := hvv.2.1
    obtain ⟨w1, w2, w3, w4, w5, w6, w7, w8, w9⟩ := hW.2.2 v hv
    refine mh_iload_4 dX7_ticks_34 (q := 36) rfl ?_
    refine mh_aload_0 dX7_ticks_36 (q := 37) rfl ?_
    refine mh_getI fl_X7_219 dX7_ticks_37 (q := 40) rfl (shX7_0 h7) rfl ?_
    rw [hW.2.1]
    refine mh_icmp_ge dX7_ticks_40 (tgt := 78) (q := 43) rfl rfl (fun hh => absurd hh (nI_ge (by omega) (by omega))) (fun _ => ?_)
    refine mh_aload_0 dX7_ticks_43 (q := 44) rfl ?_
    refine mh_getR fl_X7_62 dX7_ticks_44 (q := 47) rfl (shX7_0 h7) rfl ?_
    refine mh_iload_4 dX7_ticks_47 (q := 49) rfl ?_
    refine mh_iald dX7_ticks_49 (q := 50) rfl (shX7_18 h7) (vp_in_nI (by omega) (by decide)) ?_
    rw [w2]
    refine mh_iload_1 dX7_ticks_50 (q := 51) rfl ?_
    refine mh_icmp_ne dX7_ticks_51 (tgt := 72) (q := 54) rfl rfl (fun c51 => ?_) (fun c51 => ?_)
    · skip
      rw [nI_eq (by omega) (by omega)] at c51
      refine mh_iinc_4 (v := 1) dX7_ticks_72 (q := 75) rfl (by decide) ?_
      refine mh_goto dX7_ticks_75 (tgt := 34) rfl ?_
      rw [nI_1]
      rw [wkTick_f (fun z => c51 z.1)] at h9
      exact h9 I (by omega) hm hk hW hs hΦ
    · skip
      rw [nI_eq (by omega) (by omega)] at c51
      refine mh_aload_0 dX7_ticks_54 (q := 55) rfl ?_
      refine mh_getR fl_X7_65 dX7_ticks_55 (q := 58) rfl (shX7_0 h7) rfl ?_
      refine mh_iload_4 dX7_ticks_58 (q := 60) rfl ?_
      refine mh_iald dX7_ticks_60 (q := 61) rfl (shX7_19 h7) (vp_in_nI (by omega) (by decide)) ?_
      rw [w3]
      refine mh_bipush (v := (-9)) dX7_ticks_61 (q := 63) rfl (by decide) ?_
      refine mh_icmp_eq dX7_ticks_63 (tgt := 72) (q := 66) rfl rfl (fun c63 => ?_) (fun c63 => ?_)
      · skip
        refine mh_iinc_4 (v := 1) dX7_ticks_72 (q := 75) rfl (by decide) ?_
        refine mh_goto dX7_ticks_75 (tgt := 34) rfl ?_
        rw [nI_1]
        rw [wkTick_f (fun z => z.2 c63)] at h9
        exact h9 I (by omega) hm hk hW hs hΦ
      · skip
        refine mh_aload_0 dX7_ticks_66 (q := 67) rfl ?_
        refine mh_iload_4 dX7_ticks_67 (q := 69) rfl ?_
        refine mh_callV1 ca_X7_ticks_69 (shX7_0 h7) (q := 72) rfl (by simp [Value.category]) ⟨Nat.zero_le _, Nat.zero_le _⟩ ?_
        obtain ⟨r, hr, er⟩ := hvv.2.2.2.resolve_left c63
        rw [c51, ew, eh] at hr
        refine sp_X7_walk h7 hm hk hs (by omega) (hW.2.2 v hv) c51 hvv.1 hr er hvv.2.2.1 (fun I2 u2 s2 g2 => ?_)
        refine mh_iinc_4 (v := 1) dX7_ticks_72 (q := 75) rfl (by decide) ?_
        refine mh_goto dX7_ticks_75 (tgt := 34) rfl ?_
        rw [nI_1]
        rw [wkTick_t ⟨c51, c63⟩] at h9
        refine h9 I2 (by omega) (hm.frx g2) (hk.frx g2) ⟨hn8, hW.2.1, fun x hx => ?_⟩ s2 (fun I3 e1 e2 e3 => hΦ I3 e1 e2 (g2.y.tr e3))
        dsimp only
        by_cases e : x = v
        · rw [if_pos e, e]; exact u2
        · rw [if_neg e]; exact g2.o (by omega) (by omega) e (hW.2.2 x hx)
set_option maxHeartbeats 4000000 in
set_option maxRecDepth 100000 in
theorem lp_X7_tickC {l : Launch} {K : mhX} {kc ks : Nat} {Φ : mhQ} {S : List mhS} {F : mhF} {I : mhI} {J : mhJ} {P : mhP} (h7 : mhKX7 S) {nw : Nat} {wk : Nat → mhWk} (hW : mhWM F I nw wk) {nh j n : Nat} {wd hg : Nat → Nat} (hnh : nh ≤ 3) (hj : j < nh) (hvw : ∀ v, v < nw → vWk nh wd hg (wk v)) (hΦ : Φ (some (.int (nI (wkIn j wk nw)))) S F I J P) : ∀ (m v : Nat), v + m = nw → mhV l K mX7_ticks kc ks Φ 89 [some (.ref 21), some (.int (nI j)), some (.int (nI n)), some (.int (nI (wkIn j wk v))), some (.int (nI v))] [] S F I J P := by
  have hn8 := hW.1
  intro m
  induction m with
  | zero =>
    intro v hv
    obtain rfl : v = nw := by omega
    refine mh_iload_4 dX7_ticks_89 (q := 91) rfl ?_
    refine mh_aload_0 dX7_ticks_91 (q := 92) rfl ?_
    refine mh_getI fl_X7_219 dX7_ticks_92 (q := 95) rfl (shX7_0 h7) rfl ?_
    rw [hW.2.1]
    refine mh_icmp_ge dX7_ticks_95 (tgt := 135) (q := 98) rfl rfl (fun _ => ?_) (fun hh => absurd (nI_le (Nat.le_refl _) (by omega)) hh)
    refine mh_iload_3 dX7_ticks_135 (q := 136) rfl ?_
    refine mh_ireturn dX7_ticks_136 rfl rfl ?_
    exact hΦ
  | succ m ih =>
    intro v hvm
    have hv : v < nw := by omega
    have h9 := ih (v + 1) (by omega)
    have es : wkIn j wk (v + 1) = wkIn j wk v + (if (wk v).2.1 = j ∧ ¬ (wk v).2.2.1 = -9 then 1 else 0) := rfl
    rw [es] at h9
    have hl := (hvw v hv).2.1
    obtain ⟨w1, w2, w3, w4, w5, w6, w7, w8, w9⟩ := hW.2.2 v hv
    refine mh_iload_4 dX7_ticks_89 (q := 91) rfl ?_
    refine mh_aload_0 dX7_ticks_91 (q := 92) rfl ?_
    refine mh_getI fl_X7_219 dX7_ticks_92 (q := 95) rfl (shX7_0 h7) rfl ?_
    rw [hW.2.1]
    refine mh_icmp_ge dX7_ticks_95 (tgt := 135) (q := 98) rfl rfl (fun hh => absurd hh (nI_ge (by omega) (by omega))) (fun _ => ?_)
    refine mh_iload_3 dX7_ticks_98 (q := 99) rfl ?_
    refine mh_aload_0 dX7_ticks_99 (q := 100) rfl ?_
    refine mh_getR fl_X7_62 dX7_ticks_100 (q := 103) rfl (shX7_0 h7) rfl ?_
    refine mh_iload_4 dX7_ticks_103 (q := 105) rfl ?_
    refine mh_iald dX7_ticks_105 (q := 106) rfl (shX7_18 h7) (vp_in_nI (by omega) (by decide)) ?_
    rw [w2]
    refine mh_iload_1 dX7_ticks_106 (q := 107) rfl ?_
    refine mh_icmp_ne dX7_ticks_107 (tgt := 126) (q := 110) rfl rfl (fun c107 => ?_) (fun c107 => ?_)
    · skip
      rw [nI_eq (by omega) (by omega)] at c107
      refine mh_iconst_0 dX7_ticks_126 (q := 127) rfl ?_
      refine mh_iadd dX7_ticks_127 (q := 128) rfl ?_
      refine mh_istore_3 dX7_ticks_128 (q := 129) rfl ?_
      refine mh_iinc_4 (v := 1) dX7_ticks_129 (q := 132) rfl (by decide) ?_
      refine mh_goto dX7_ticks_132 (tgt := 89) rfl ?_
      rw [nI_1, Int32.add_zero]
      rw [if_neg (fun z => c107 z.1), Nat.add_zero] at h9
      exact h9
    · skip
      rw [nI_eq (by omega) (by omega)] at c107
      refine mh_aload_0 dX7_ticks_110 (q := 111) rfl ?_
      refine mh_getR fl_X7_65 dX7_ticks_111 (q := 114) rfl (shX7_0 h7) rfl ?_
      refine mh_iload_4 dX7_ticks_114 (q := 116) rfl ?_
      refine mh_iald dX7_ticks_116 (q := 117) rfl (shX7_19 h7) (vp_in_nI (by omega) (by decide)) ?_
      rw [w3]
      refine mh_bipush (v := (-9)) dX7_ticks_117 (q := 119) rfl (by decide) ?_
      refine mh_icmp_eq dX7_ticks_119 (tgt := 126) (q := 122) rfl rfl (fun c119 => ?_) (fun c119 => ?_)
      · skip
        refine mh_iconst_0 dX7_ticks_126 (q := 127) rfl ?_
        refine mh_iadd dX7_ticks_127 (q := 128) rfl ?_
        refine mh_istore_3 dX7_ticks_128 (q := 129) rfl ?_
        refine mh_iinc_4 (v := 1) dX7_ticks_129 (q := 132) rfl (by decide) ?_
        refine mh_goto dX7_ticks_132 (tgt := 89) rfl ?_
        rw [nI_1, Int32.add_zero]
        rw [if_neg (fun z => z.2 c119), Nat.add_zero] at h9
        exact h9
      · skip
        refine mh_iconst_1 dX7_ticks_122 (q := 123) rfl ?_
        refine mh_goto dX7_ticks_123 (tgt := 127) rfl ?_
        refine mh_iadd dX7_ticks_127 (q := 128) rfl ?_
        refine mh_istore_3 dX7_ticks_128 (q := 129) rfl ?_
        refine mh_iinc_4 (v := 1) dX7_ticks_129 (q := 132) rfl (by decide) ?_
        refine mh_goto dX7_ticks_132 (tgt := 89) rfl ?_
        rw [nI_1, nI_1]
        rw [if_pos ⟨c107, c119⟩] at h9
        exact h9
set_option maxHeartbeats 4000000 in
set_option maxRecDepth 100000 in
theorem lp_X7_ticks {l : Launch} {K : mhX} {kc ks : Nat} {Φ : mhQ} {S : List mhS} {J : mhJ} {P : mhP} (h7 : mhKX7 S) {nw nh j w h n : Nat} {wd hg : Nat → Nat} {kd : Nat → Int32} (hn2 : n ≤ 200) (hnh : nh ≤ 3) (hj : j < nh) (ew : wd j = w) (eh : hg j = h) (g : gOk w h) {F : mhF} : ∀ (m t : Nat) (I : mhI) (σ : (Nat → mhWk) × (Nat → Int32)) (o4 : Option Value), t + m = n → mhHm I j w h → mhKn I j w h kd → mhWM F I nw σ.1 → smM I j w h σ.2 → (∀ v, v < nw → vWk nh wd hg (σ.1 v)) → (∀ I2 : mhI, mhWM F I2 nw (wkRun w h j nw kd m σ).1 → smM I2 j w h (wkRun w h j nw kd m σ).2 → frY j I I2 → Φ (some (.int (nI (wkIn j (wkRun w h j nw kd m σ).1 nw)))) S F I2 J P) → mhV l K mX7_ticks kc ks Φ 26 [some (.ref 21), some (.int (nI j)), some (.int (nI n)), some (.int (nI t)), o4] [] S F I J P := by
  intro m
  induction m with
  | zero =>
    intro t I σ o4 ht hm hk hW hs hv hΦ
    obtain rfl : t = n := by omega
    refine mh_iload_3 dX7_ticks_26 (q := 27) rfl ?_
    refine mh_iload_2 dX7_ticks_27 (q := 28) rfl ?_
    refine mh_icmp_ge dX7_ticks_28 (tgt := 84) (q := 31) rfl rfl (fun _ => ?_) (fun hh => absurd (nI_le (Nat.le_refl _) (by omega)) hh)
    refine mh_iconst_0 dX7_ticks_84 (q := 85) rfl ?_
    refine mh_istore_3 dX7_ticks_85 (q := 86) rfl ?_
    refine mh_iconst_0 dX7_ticks_86 (q := 87) rfl ?_
    refine mh_istore_4 dX7_ticks_87 (q := 89) rfl ?_
    exact lp_X7_tickC h7 hW hnh hj hv (hΦ I hW hs frY.rf) nw 0 (Nat.zero_add _)
  | succ m ih =>
    intro t I σ o4 ht hm hk hW hs hv hΦ
    refine mh_iload_3 dX7_ticks_26 (q := 27) rfl ?_
    refine mh_iload_2 dX7_ticks_27 (q := 28) rfl ?_
    refine mh_icmp_ge dX7_ticks_28 (tgt := 84) (q := 31) rfl rfl (fun hh => absurd hh (nI_ge (by omega) (by omega))) (fun _ => ?_)
    refine mh_iconst_0 dX7_ticks_31 (q := 32) rfl ?_
    refine mh_istore_4 dX7_ticks_32 (q := 34) rfl ?_
    refine lp_X7_tickA h7 hn2 hnh hj ew eh g hv nw 0 I (Nat.zero_add _) hm hk hW hs (fun I2 W2 s2 g2 => ?_)
    refine mh_iinc_3 (v := 1) dX7_ticks_78 (q := 81) rfl (by decide) ?_
    refine mh_goto dX7_ticks_81 (tgt := 26) rfl ?_
    rw [nI_1]
    refine ih (t + 1) I2 _ _ (by omega) (hm.fry g2) (hk.fry g2) W2 s2 (fun v hx => ?_) (fun I3 e1 e2 e3 => hΦ I3 e1 e2 (g2.tr e3))
    have := wkTick_v (nh := nh) (wd := wd) (hg := hg) (j := j) (kd := kd) (by rw [ew, eh]; exact g) hv (Nat.le_refl nw) v hx
    rw [ew, eh] at this
    exact this
set_option maxHeartbeats 4000000 in
set_option maxRecDepth 100000 in
theorem sp_X7_ticks {l : Launch} {K : mhX} {Φ : mhQ} {S : List mhS} {F : mhF} {I : mhI} {J : mhJ} {P : mhP} {nh : Nat} {wd hg : Nat → Nat} (hM : mhHR S F I nh wd hg) {kd : Nat → Nat → Int32} (hK : ∀ j, j < nh → mhKn I j (wd j) (hg j) (kd j)) {nw : Nat} {wk : Nat → mhWk} (hW : mhWM F I nw wk) {sm : Nat → Nat → Int32} (hS : ∀ j, j < nh → smM I j (wd j) (hg j) (sm j)) (hvw : ∀ v, v < nw → vWk nh wd hg (wk v)) {x n : Int32} (hn : ¬ vHs nh x → Φ (some (.int (-1))) S F I J P) (hb : vHs nh x → ¬ (0 ≤ n ∧ n ≤ 200) → Φ (some (.int (-2))) S F I J P) (ht : ∀ j m, j < nh → x = nI j → n = nI m → m ≤ 200 → (0 ≤ n ∧ n ≤ 200) → ∀ I2 : mhI, mhWM F I2 nw (wkRun (wd j) (hg j) j nw (kd j) m (wk, sm j)).1 → smM I2 j (wd j) (hg j) (wkRun (wd j) (hg j) j nw (kd j) m (wk, sm j)).2 → frY j I I2 → Φ (some (.int (nI (wkIn j (wkRun (wd j) (hg j) j nw (kd j) m (wk, sm j)).1 nw)))) S F I2 J P) : mhOk l K mX7_ticks [.ref 21, .int x, .int n] S F I J P Φ := by
  refine mhOk.of (by decide) (by decide) rfl (Nat.le_of_ble_eq_true rfl) ?_
  refine mh_aload_0 dX7_ticks_0 (q := 1) rfl ?_
  refine mh_iload_1 dX7_ticks_1 (q := 2) rfl ?_
  refine mh_callV1 ca_X7_ticks_2 (shX7_0 hM.1) (q := 5) rfl (by simp [Value.category]) ⟨Nat.zero_le _, Nat.zero_le _⟩ ?_
  refine sp_X7_isHouse hM (fun j hj ej => ?_) (fun hk => ?_)
  · skip
    subst ej
    refine mh_if_ne dX7_ticks_5 (tgt := 10) (q := 8) rfl rfl (fun _ => ?_) (fun hh => False.elim (by revert hh; decide))
    refine mh_iload_2 dX7_ticks_10 (q := 11) rfl ?_
    refine mh_iconst_0 dX7_ticks_11 (q := 12) rfl ?_
    refine mh_sipush (v := 200) dX7_ticks_12 (q := 15) rfl (by decide) ?_
    refine mh_callS3 ca_X7_ticks_15 (q := 18) rfl (by simp [Value.category]) ⟨Nat.zero_le _, Nat.zero_le _⟩ ?_
    refine sp_X7_within (fun cn => ?_) (fun cn => ?_)
    · skip
      refine mh_if_ne dX7_ticks_18 (tgt := 24) (q := 21) rfl rfl (fun _ => ?_) (fun hh => False.elim (by revert hh; decide))
      refine mh_iconst_0 dX7_ticks_24 (q := 25) rfl ?_
      refine mh_istore_3 dX7_ticks_25 (q := 26) rfl ?_
      obtain ⟨m, hm, rfl⟩ := mh_t200 cn
      exact lp_X7_ticks (kc := mX7_ticks.2.2.2.2.cells) (ks := mX7_ticks.2.2.2.2.slots) hM.1 hm hM.2.1 hj rfl rfl (hM.2.2.2 j hj).2.1 m 0 I (wk, sm j) _ (Nat.zero_add _) (hM.2.2.2 j hj) (hK j hj) hW (hS j hj) hvw (fun I2 e1 e2 e3 => ht j m hj rfl rfl hm cn I2 e1 e2 e3)
    · skip
      refine mh_if_ne dX7_ticks_18 (tgt := 24) (q := 21) rfl rfl (fun hh => False.elim (by revert hh; decide)) (fun _ => ?_)
      refine mh_bipush (v := (-2)) dX7_ticks_21 (q := 23) rfl (by decide) ?_
      refine mh_ireturn dX7_ticks_23 rfl rfl ?_
      exact hb ⟨j, hj, rfl⟩ cn
  · skip
    refine mh_if_ne dX7_ticks_5 (tgt := 10) (q := 8) rfl rfl (fun hh => False.elim (by revert hh; decide)) (fun _ => ?_)
    refine mh_iconst_m1 dX7_ticks_8 (q := 9) rfl ?_
    refine mh_ireturn dX7_ticks_9 rfl rfl ?_
    exact hn hk
set_option maxHeartbeats 4000000 in
set_option maxRecDepth 100000 in
theorem sp_X7_ofWalker {l : Launch} {K : mhX} {Φ : mhQ} {S : List mhS} {F : mhF} {I : mhI} {J : mhJ} {P : mhP} (h7 : mhKX7 S) {nw : Nat} {wk : Nat → mhWk} (hW : mhWM F I nw wk) {x what : Int32} (hn : ¬ vWn nw x → Φ (some (.int (-1))) S F I J P) (ht : ∀ v, v < nw → x = nI v → Φ (some (.int (owR (wk v) what))) S F I J P) : mhOk l K mX7_ofWalker [.ref 21, .int x, .int what] S F I J P Φ := by
  refine mhOk.of (by decide) (by decide) rfl (Nat.le_of_ble_eq_true rfl) ?_
  refine mh_aload_0 dX7_ofWalker_0 (q := 1) rfl ?_
  refine mh_iload_1 dX7_ofWalker_1 (q := 2) rfl ?_
  refine mh_callV1 ca_X7_ofWalker_2 (shX7_0 h7) (q := 5) rfl (by simp [Value.category]) ⟨Nat.zero_le _, Nat.zero_le _⟩ ?_
  refine sp_X7_isWalker h7 hW (fun v hv ev => ?_) (fun hk => ?_)
  · skip
    subst ev
    have hn8 := hW.1
    obtain ⟨w1, w2, w3, w4, w5, w6, w7, w8, w9⟩ := hW.2.2 v hv
    refine mh_if_ne dX7_ofWalker_5 (tgt := 10) (q := 8) rfl rfl (fun _ => ?_) (fun hh => False.elim (by revert hh; decide))
    refine mh_iload_2 dX7_ofWalker_10 (q := 11) rfl ?_
    refine mh_tsw dX7_ofWalker_11 (tgt := 101) rfl (fun c11 => ?_) (fun i11 j11 c11 => ?_)
    · skip
      replace c11 : _ < (0 : Int32) ∨ (6 : Int32) < _ := c11.imp Int32.lt_iff_toInt_lt.mpr Int32.lt_iff_toInt_lt.mpr
      refine mh_bipush (v := (-2)) dX7_ofWalker_101 (q := 103) rfl (by decide) ?_
      refine mh_ireturn dX7_ofWalker_103 rfl rfl ?_
      exact mh_cl (ht v hv rfl) (by grind [owR])
    · rcases (show i11 = 0 ∨ i11 = 1 ∨ i11 = 2 ∨ i11 = 3 ∨ i11 = 4 ∨ i11 = 5 ∨ i11 = 6 by omega) with rfl | rfl | rfl | rfl | rfl | rfl | rfl
      · refine ⟨41, 52, rfl, rfl, ?_⟩
        replace c11 : _ = (0 : Int32) := Int32.toInt_inj.mp c11
        refine mh_aload_0 dX7_ofWalker_52 (q := 53) rfl ?_
        refine mh_getR fl_X7_59 dX7_ofWalker_53 (q := 56) rfl (shX7_0 h7) rfl ?_
        refine mh_iload_1 dX7_ofWalker_56 (q := 57) rfl ?_
        refine mh_iald dX7_ofWalker_57 (q := 58) rfl (shX7_17 h7) (vp_in_nI (by omega) (by decide)) ?_
        rw [w1]
        refine mh_ireturn dX7_ofWalker_58 rfl rfl ?_
        exact mh_cl (ht v hv rfl) (by grind [owR])
      · refine ⟨48, 59, rfl, rfl, ?_⟩
        replace c11 : _ = (1 : Int32) := Int32.toInt_inj.mp c11
        refine mh_aload_0 dX7_ofWalker_59 (q := 60) rfl ?_
        refine mh_getR fl_X7_62 dX7_ofWalker_60 (q := 63) rfl (shX7_0 h7) rfl ?_
        refine mh_iload_1 dX7_ofWalker_63 (q := 64) rfl ?_
        refine mh_iald dX7_ofWalker_64 (q := 65) rfl (shX7_18 h7) (vp_in_nI (by omega) (by decide)) ?_
        rw [w2]
        refine mh_ireturn dX7_ofWalker_65 rfl rfl ?_
        exact mh_cl (ht v hv rfl) (by grind [owR])
      · refine ⟨55, 66, rfl, rfl, ?_⟩
        replace c11 : _ = (2 : Int32) := Int32.toInt_inj.mp c11
        refine mh_aload_0 dX7_ofWalker_66 (q := 67) rfl ?_
        refine mh_getR fl_X7_65 dX7_ofWalker_67 (q := 70) rfl (shX7_0 h7) rfl ?_
        refine mh_iload_1 dX7_ofWalker_70 (q := 71) rfl ?_
        refine mh_iald dX7_ofWalker_71 (q := 72) rfl (shX7_19 h7) (vp_in_nI (by omega) (by decide)) ?_
        rw [w3]
        refine mh_ireturn dX7_ofWalker_72 rfl rfl ?_
        exact mh_cl (ht v hv rfl) (by grind [owR])
      · refine ⟨62, 73, rfl, rfl, ?_⟩
        replace c11 : _ = (3 : Int32) := Int32.toInt_inj.mp c11
        refine mh_aload_0 dX7_ofWalker_73 (q := 74) rfl ?_
        refine mh_getR fl_X7_68 dX7_ofWalker_74 (q := 77) rfl (shX7_0 h7) rfl ?_
        refine mh_iload_1 dX7_ofWalker_77 (q := 78) rfl ?_
        refine mh_iald dX7_ofWalker_78 (q := 79) rfl (shX7_20 h7) (vp_in_nI (by omega) (by decide)) ?_
        rw [w4]
        refine mh_ireturn dX7_ofWalker_79 rfl rfl ?_
        exact mh_cl (ht v hv rfl) (by grind [owR])
      · refine ⟨69, 80, rfl, rfl, ?_⟩
        replace c11 : _ = (4 : Int32) := Int32.toInt_inj.mp c11
        refine mh_aload_0 dX7_ofWalker_80 (q := 81) rfl ?_
        refine mh_getR fl_X7_71 dX7_ofWalker_81 (q := 84) rfl (shX7_0 h7) rfl ?_
        refine mh_iload_1 dX7_ofWalker_84 (q := 85) rfl ?_
        refine mh_iald dX7_ofWalker_85 (q := 86) rfl (shX7_21 h7) (vp_in_nI (by omega) (by decide)) ?_
        rw [w5]
        refine mh_ireturn dX7_ofWalker_86 rfl rfl ?_
        exact mh_cl (ht v hv rfl) (by grind [owR])
      · refine ⟨76, 87, rfl, rfl, ?_⟩
        replace c11 : _ = (5 : Int32) := Int32.toInt_inj.mp c11
        refine mh_aload_0 dX7_ofWalker_87 (q := 88) rfl ?_
        refine mh_getR fl_X7_74 dX7_ofWalker_88 (q := 91) rfl (shX7_0 h7) rfl ?_
        refine mh_iload_1 dX7_ofWalker_91 (q := 92) rfl ?_
        refine mh_iald dX7_ofWalker_92 (q := 93) rfl (shX7_22 h7) (vp_in_nI (by omega) (by decide)) ?_
        rw [w6]
        refine mh_ireturn dX7_ofWalker_93 rfl rfl ?_
        exact mh_cl (ht v hv rfl) (by grind [owR])
      · refine ⟨83, 94, rfl, rfl, ?_⟩
        replace c11 : _ = (6 : Int32) := Int32.toInt_inj.mp c11
        refine mh_aload_0 dX7_ofWalker_94 (q := 95) rfl ?_
        refine mh_getR fl_X7_80 dX7_ofWalker_95 (q := 98) rfl (shX7_0 h7) rfl ?_
        refine mh_iload_1 dX7_ofWalker_98 (q := 99) rfl ?_
        refine mh_iald dX7_ofWalker_99 (q := 100) rfl (shX7_24 h7) (vp_in_nI (by omega) (by decide)) ?_
        rw [w8]
        refine mh_ireturn dX7_ofWalker_100 rfl rfl ?_
        exact mh_cl (ht v hv rfl) (by grind [owR])
  · skip
    refine mh_if_ne dX7_ofWalker_5 (tgt := 10) (q := 8) rfl rfl (fun hh => False.elim (by revert hh; decide)) (fun _ => ?_)
    refine mh_iconst_m1 dX7_ofWalker_8 (q := 9) rfl ?_
    refine mh_ireturn dX7_ofWalker_9 rfl rfl ?_
    exact hn hk
set_option maxHeartbeats 4000000 in
set_option maxRecDepth 100000 in
theorem sp_X7_begins {l : Launch} {K : mhX} {Φ : mhQ} {S : List mhS} {F : mhF} {I : mhI} {J : mhJ} {P : mhP} (h7 : mhKX7 S) {b : Int32} (hΦ : Φ none S (mhUF F 21 1 (lvT (F 21 1) b)) I J P) : mhOk l K mX7_begins [.ref 21, .int b] S F I J P Φ := by
  refine mhOk.of (by decide) (by decide) rfl (Nat.le_of_ble_eq_true rfl) ?_
  refine mh_aload_0 dX7_begins_0 (q := 1) rfl ?_
  refine mh_bipush (v := 31) dX7_begins_1 (q := 3) rfl (by decide) ?_
  refine mh_aload_0 dX7_begins_3 (q := 4) rfl ?_
  refine mh_getI fl_X7_275 dX7_begins_4 (q := 7) rfl (shX7_0 h7) rfl ?_
  refine mh_imul dX7_begins_7 (q := 8) rfl ?_
  refine mh_iload_1 dX7_begins_8 (q := 9) rfl ?_
  refine mh_iadd dX7_begins_9 (q := 10) rfl ?_
  refine mh_putI (Or.inl fw_X7_275) rfl rfl dX7_begins_10 (q := 13) rfl (shX7_0 h7) rfl ?_
  refine mh_return dX7_begins_13 rfl ?_
  exact hΦ
set_option maxHeartbeats 4000000 in
set_option maxRecDepth 100000 in
theorem sp_X7_tell {l : Launch} {K : mhX} {Φ : mhQ} {S : List mhS} {F : mhF} {I : mhI} {J : mhJ} {P : mhP} (h7 : mhKX7 S) {nw : Nat} {wk : Nat → mhWk} (hW : mhWM F I nw wk) (hv3 : ∀ v, v < nw → (wk v).1 < 3) {x : Int32} (hn : ¬ vWn nw x → Φ (some (.int (-1))) S F I J P) (ht : ∀ v, v < nw → x = nI v → Φ (some (.int (tlR (wk v).1 (wk v).2.2.2.2.1))) S (mhUF F 21 1 (tlT (wk v).1 (F 21 1))) I J P) : mhOk l K mX7_tell [.ref 21, .int x] S F I J P Φ := by
  refine mhOk.of (by decide) (by decide) rfl (Nat.le_of_ble_eq_true rfl) ?_
  refine mh_aload_0 dX7_tell_0 (q := 1) rfl ?_
  refine mh_iload_1 dX7_tell_1 (q := 2) rfl ?_
  refine mh_callV1 ca_X7_tell_2 (shX7_0 h7) (q := 5) rfl (by simp [Value.category]) ⟨Nat.zero_le _, Nat.zero_le _⟩ ?_
  refine sp_X7_isWalker h7 hW (fun v hv ev => ?_) (fun hk => ?_)
  · skip
    subst ev
    have hn8 := hW.1
    obtain ⟨w1, w2, w3, w4, w5, w6, w7, w8, w9⟩ := hW.2.2 v hv
    refine mh_if_ne dX7_tell_5 (tgt := 10) (q := 8) rfl rfl (fun _ => ?_) (fun hh => False.elim (by revert hh; decide))
    refine mh_aload_0 dX7_tell_10 (q := 11) rfl ?_
    refine mh_getR fl_X7_71 dX7_tell_11 (q := 14) rfl (shX7_0 h7) rfl ?_
    refine mh_iload_1 dX7_tell_14 (q := 15) rfl ?_
    refine mh_iald dX7_tell_15 (q := 16) rfl (shX7_21 h7) (vp_in_nI (by omega) (by decide)) ?_
    rw [w5]
    refine mh_istore_2 dX7_tell_16 (q := 17) rfl ?_
    refine mh_aload_0 dX7_tell_17 (q := 18) rfl ?_
    refine mh_getR fl_X7_59 dX7_tell_18 (q := 21) rfl (shX7_0 h7) rfl ?_
    refine mh_iload_1 dX7_tell_21 (q := 22) rfl ?_
    refine mh_iald dX7_tell_22 (q := 23) rfl (shX7_17 h7) (vp_in_nI (by omega) (by decide)) ?_
    rw [w1]
    by_cases c23_1 : (nI (wk v).1) = 1
    · refine mh_lsw dX7_tell_23 (off := 25) (tgt := 48) (by decide) (by rw [c23_1]; decide) rfl ?_
      have k3 := hv3 v hv
      have hx := ht v hv rfl
      have ek : (wk v).1 = 1 := (nI_eq (by omega) (by decide)).mp c23_1
      rw [ek] at hx
      refine mh_aload_0 dX7_tell_48 (q := 49) rfl ?_
      refine mh_iconst_2 dX7_tell_49 (q := 50) rfl ?_
      refine mh_callV1 ca_X7_tell_50 (shX7_0 h7) (q := 53) rfl (by simp [Value.category]) ⟨Nat.zero_le _, Nat.zero_le _⟩ ?_
      refine sp_X7_begins h7 ?_
      refine mh_aload_0 dX7_tell_53 (q := 54) rfl ?_
      refine mh_iconst_1 dX7_tell_54 (q := 55) rfl ?_
      refine mh_callV1 ca_X7_tell_55 (shX7_0 h7) (q := 58) rfl (by simp [Value.category]) ⟨Nat.zero_le _, Nat.zero_le _⟩ ?_
      refine sp_X7_begins h7 ?_
      rw [mhUF_uu, mhUF_at]
      refine mh_iload_2 dX7_tell_58 (q := 59) rfl ?_
      refine mh_bipush (v := 100) dX7_tell_59 (q := 61) rfl (by decide) ?_
      refine mh_iadd dX7_tell_61 (q := 62) rfl ?_
      refine mh_ireturn dX7_tell_62 rfl rfl ?_
      exact hx
    by_cases c23_2 : (nI (wk v).1) = 2
    · refine mh_lsw dX7_tell_23 (off := 40) (tgt := 63) (by decide) (by rw [c23_2]; decide) rfl ?_
      have k3 := hv3 v hv
      have hx := ht v hv rfl
      have ek : (wk v).1 = 2 := (nI_eq (by omega) (by decide)).mp c23_2
      rw [ek] at hx
      refine mh_aload_0 dX7_tell_63 (q := 64) rfl ?_
      refine mh_iconst_3 dX7_tell_64 (q := 65) rfl ?_
      refine mh_callV1 ca_X7_tell_65 (shX7_0 h7) (q := 68) rfl (by simp [Value.category]) ⟨Nat.zero_le _, Nat.zero_le _⟩ ?_
      refine sp_X7_begins h7 ?_
      refine mh_aload_0 dX7_tell_68 (q := 69) rfl ?_
      refine mh_iconst_2 dX7_tell_69 (q := 70) rfl ?_
      refine mh_callV1 ca_X7_tell_70 (shX7_0 h7) (q := 73) rfl (by simp [Value.category]) ⟨Nat.zero_le _, Nat.zero_le _⟩ ?_
      refine sp_X7_begins h7 ?_
      rw [mhUF_uu, mhUF_at]
      refine mh_aload_0 dX7_tell_73 (q := 74) rfl ?_
      refine mh_iconst_1 dX7_tell_74 (q := 75) rfl ?_
      refine mh_callV1 ca_X7_tell_75 (shX7_0 h7) (q := 78) rfl (by simp [Value.category]) ⟨Nat.zero_le _, Nat.zero_le _⟩ ?_
      refine sp_X7_begins h7 ?_
      rw [mhUF_uu, mhUF_at]
      refine mh_aload_0 dX7_tell_78 (q := 79) rfl ?_
      refine mh_iconst_1 dX7_tell_79 (q := 80) rfl ?_
      refine mh_callV1 ca_X7_tell_80 (shX7_0 h7) (q := 83) rfl (by simp [Value.category]) ⟨Nat.zero_le _, Nat.zero_le _⟩ ?_
      refine sp_X7_begins h7 ?_
      rw [mhUF_uu, mhUF_at]
      refine mh_iconst_2 dX7_tell_83 (q := 84) rfl ?_
      refine mh_iload_2 dX7_tell_84 (q := 85) rfl ?_
      refine mh_imul dX7_tell_85 (q := 86) rfl ?_
      refine mh_bipush (v := 100) dX7_tell_86 (q := 88) rfl (by decide) ?_
      refine mh_iadd dX7_tell_88 (q := 89) rfl ?_
      refine mh_ireturn dX7_tell_89 rfl rfl ?_
      exact hx
    refine mh_lsw dX7_tell_23 (off := 67) (tgt := 90) (by decide) (by have e1 : ¬ ((1 : Int) = Int32.toInt (nI (wk v).1)) := fun e => c23_1 (Int32.toInt_inj.mp (e.symm.trans (by decide))); have e2 : ¬ ((2 : Int) = Int32.toInt (nI (wk v).1)) := fun e => c23_2 (Int32.toInt_inj.mp (e.symm.trans (by decide))); simp [Op.lookupswitch.offset, e1, e2]) rfl ?_
    have k3 := hv3 v hv
    have hx := ht v hv rfl
    unfold tlR tlT at hx
    have e1 : ¬ (wk v).1 = 1 := fun e => c23_1 (by rw [e]; rfl)
    have e2 : ¬ (wk v).1 = 2 := fun e => c23_2 (by rw [e]; rfl)
    rw [if_neg e1, if_neg e1, if_neg e2, if_neg e2] at hx
    refine mh_aload_0 dX7_tell_90 (q := 91) rfl ?_
    refine mh_iconst_1 dX7_tell_91 (q := 92) rfl ?_
    refine mh_callV1 ca_X7_tell_92 (shX7_0 h7) (q := 95) rfl (by simp [Value.category]) ⟨Nat.zero_le _, Nat.zero_le _⟩ ?_
    refine sp_X7_begins h7 ?_
    refine mh_iload_2 dX7_tell_95 (q := 96) rfl ?_
    refine mh_ireturn dX7_tell_96 rfl rfl ?_
    exact hx
  · skip
    refine mh_if_ne dX7_tell_5 (tgt := 10) (q := 8) rfl rfl (fun hh => False.elim (by revert hh; decide)) (fun _ => ?_)
    refine mh_iconst_m1 dX7_tell_8 (q := 9) rfl ?_
    refine mh_ireturn dX7_tell_9 rfl rfl ?_
    exact hn hk
set_option maxHeartbeats 4000000 in
set_option maxRecDepth 100000 in
theorem sp_X7_greet {l : Launch} {K : mhX} {Φ : mhQ} {S : List mhS} {F : mhF} {I : mhI} {J : mhJ} {P : mhP} (h7 : mhKX7 S) {nw : Nat} {wk : Nat → mhWk} (hW : mhWM F I nw wk) (hv3 : ∀ v, v < nw → (wk v).1 < 3) {x : Int32} (hn : ¬ vWn nw x → Φ (some (.int (-1))) S F I J P) (ht : ∀ v, v < nw → x = nI v → Φ (some (.int (grR (wk v).1 x))) S (mhUF F 21 1 (grT (wk v).1 (F 21 1))) I J P) : mhOk l K mX7_greet [.ref 21, .int x] S F I J P Φ := by
  refine mhOk.of (by decide) (by decide) rfl (Nat.le_of_ble_eq_true rfl) ?_
  refine mh_aload_0 dX7_greet_0 (q := 1) rfl ?_
  refine mh_iload_1 dX7_greet_1 (q := 2) rfl ?_
  refine mh_callV1 ca_X7_greet_2 (shX7_0 h7) (q := 5) rfl (by simp [Value.category]) ⟨Nat.zero_le _, Nat.zero_le _⟩ ?_
  refine sp_X7_isWalker h7 hW (fun v hv ev => ?_) (fun hk => ?_)
  · skip
    subst ev
    have hn8 := hW.1
    obtain ⟨w1, w2, w3, w4, w5, w6, w7, w8, w9⟩ := hW.2.2 v hv
    refine mh_if_ne dX7_greet_5 (tgt := 10) (q := 8) rfl rfl (fun _ => ?_) (fun hh => False.elim (by revert hh; decide))
    refine mh_aload_0 dX7_greet_10 (q := 11) rfl ?_
    refine mh_aload_0 dX7_greet_11 (q := 12) rfl ?_
    refine mh_getR fl_X7_59 dX7_greet_12 (q := 15) rfl (shX7_0 h7) rfl ?_
    refine mh_iload_1 dX7_greet_15 (q := 16) rfl ?_
    refine mh_iald dX7_greet_16 (q := 17) rfl (shX7_17 h7) (vp_in_nI (by omega) (by decide)) ?_
    rw [w1]
    refine mh_iconst_2 dX7_greet_17 (q := 18) rfl ?_
    refine mh_icmp_ne dX7_greet_18 (tgt := 25) (q := 21) rfl rfl (fun c18 => ?_) (fun c18 => ?_)
    · skip
      have k3 := hv3 v hv
      have hx := ht v hv rfl
      unfold grR grT at hx
      rw [show (2 : Int32) = nI 2 from rfl, nI_eq (by omega) (by decide)] at c18
      rw [if_neg c18, if_neg c18] at hx
      refine mh_iconst_4 dX7_greet_25 (q := 26) rfl ?_
      refine mh_callV1 ca_X7_greet_26 (shX7_0 h7) (q := 29) rfl (by simp [Value.category]) ⟨Nat.zero_le _, Nat.zero_le _⟩ ?_
      refine sp_X7_begins h7 ?_
      refine mh_aload_0 dX7_greet_29 (q := 30) rfl ?_
      refine mh_getR fl_X7_59 dX7_greet_30 (q := 33) rfl (shX7_0 h7) rfl ?_
      refine mh_iload_1 dX7_greet_33 (q := 34) rfl ?_
      refine mh_iald dX7_greet_34 (q := 35) rfl (shX7_17 h7) (vp_in_nI (by omega) (by decide)) ?_
      rw [w1]
      refine mh_iconst_2 dX7_greet_35 (q := 36) rfl ?_
      refine mh_icmp_ne dX7_greet_36 (tgt := 44) (q := 39) rfl rfl (fun c36 => ?_) (fun c36 => ?_)
      · skip
        rw [show (2 : Int32) = nI 2 from rfl, nI_eq (by omega) (by decide)] at c36
        refine mh_iload_1 dX7_greet_44 (q := 45) rfl ?_
        refine mh_ireturn dX7_greet_45 rfl rfl ?_
        first | exact hx | exact absurd c36 c18 | exact absurd c18 c36
      · skip
        rw [show (2 : Int32) = nI 2 from rfl, nI_eq (by omega) (by decide)] at c36
        refine mh_bipush (v := 70) dX7_greet_39 (q := 41) rfl (by decide) ?_
        refine mh_goto dX7_greet_41 (tgt := 45) rfl ?_
        refine mh_ireturn dX7_greet_45 rfl rfl ?_
        first | exact hx | exact absurd c36 c18 | exact absurd c18 c36
    · skip
      have k3 := hv3 v hv
      have hx := ht v hv rfl
      unfold grR grT at hx
      rw [show (2 : Int32) = nI 2 from rfl, nI_eq (by omega) (by decide)] at c18
      rw [if_pos c18, if_pos c18] at hx
      refine mh_iconst_5 dX7_greet_21 (q := 22) rfl ?_
      refine mh_goto dX7_greet_22 (tgt := 26) rfl ?_
      refine mh_callV1 ca_X7_greet_26 (shX7_0 h7) (q := 29) rfl (by simp [Value.category]) ⟨Nat.zero_le _, Nat.zero_le _⟩ ?_
      refine sp_X7_begins h7 ?_
      refine mh_aload_0 dX7_greet_29 (q := 30) rfl ?_
      refine mh_getR fl_X7_59 dX7_greet_30 (q := 33) rfl (shX7_0 h7) rfl ?_
      refine mh_iload_1 dX7_greet_33 (q := 34) rfl ?_
      refine mh_iald dX7_greet_34 (q := 35) rfl (shX7_17 h7) (vp_in_nI (by omega) (by decide)) ?_
      rw [w1]
      refine mh_iconst_2 dX7_greet_35 (q := 36) rfl ?_
      refine mh_icmp_ne dX7_greet_36 (tgt := 44) (q := 39) rfl rfl (fun c36 => ?_) (fun c36 => ?_)
      · skip
        rw [show (2 : Int32) = nI 2 from rfl, nI_eq (by omega) (by decide)] at c36
        refine mh_iload_1 dX7_greet_44 (q := 45) rfl ?_
        refine mh_ireturn dX7_greet_45 rfl rfl ?_
        first | exact hx | exact absurd c36 c18 | exact absurd c18 c36
      · skip
        rw [show (2 : Int32) = nI 2 from rfl, nI_eq (by omega) (by decide)] at c36
        refine mh_bipush (v := 70) dX7_greet_39 (q := 41) rfl (by decide) ?_
        refine mh_goto dX7_greet_41 (tgt := 45) rfl ?_
        refine mh_ireturn dX7_greet_45 rfl rfl ?_
        first | exact hx | exact absurd c36 c18 | exact absurd c18 c36
  · skip
    refine mh_if_ne dX7_greet_5 (tgt := 10) (q := 8) rfl rfl (fun hh => False.elim (by revert hh; decide)) (fun _ => ?_)
    refine mh_iconst_m1 dX7_greet_8 (q := 9) rfl ?_
    refine mh_ireturn dX7_greet_9 rfl rfl ?_
    exact hn hk
theorem mhWM.f0 {F : mhF} {I : mhI} {nw : Nat} {wk : Nat → mhWk} {k : Nat} {x : Int32} (hk : ¬ k = 28) (H : mhWM F I nw wk) : mhWM (mhUF F 21 k x) I nw wk := ⟨H.1, (mhUF_nk (by omega)).trans H.2.1, H.2.2⟩
set_option maxHeartbeats 4000000 in
set_option maxRecDepth 100000 in
theorem sp_X7_as {l : Launch} {K : mhX} {Φ : mhQ} {S : List mhS} {F : mhF} {I : mhI} {J : mhJ} {P : mhP} (h7 : mhKX7 S) {nw : Nat} {wk : Nat → mhWk} (hW : mhWM F I nw wk) {x y : Int32} (hn : ¬ vWn nw x → Φ (some (.int (-1))) S (mhUF F 21 0 0) I J P) (hb : vWn nw x → ¬ (0 ≤ y ∧ y ≤ 2) → Φ (some (.int (-2))) S (mhUF F 21 0 0) I J P) (ht : ∀ v, v < nw → x = nI v → (0 ≤ y ∧ y ≤ 2) → y ≤ nI (wk v).1 → Φ (some (.int 1)) S (mhUF F 21 0 0) I J P) (hf : ∀ v, v < nw → x = nI v → (0 ≤ y ∧ y ≤ 2) → ¬ y ≤ nI (wk v).1 → Φ (some (.int (-12))) S (mhUF F 21 0 2) I J P) : mhOk l K mX7_as [.ref 21, .int x, .int y] S F I J P Φ := by
  refine mhOk.of (by decide) (by decide) rfl (Nat.le_of_ble_eq_true rfl) ?_
  refine mh_aload_0 dX7_as_0 (q := 1) rfl ?_
  refine mh_iconst_0 dX7_as_1 (q := 2) rfl ?_
  refine mh_putI (Or.inl fw_X7_102) rfl rfl dX7_as_2 (q := 5) rfl (shX7_0 h7) rfl ?_
  replace hW := hW.f0 (k := 0) (x := 0) (by decide)
  refine mh_aload_0 dX7_as_5 (q := 6) rfl ?_
  refine mh_iload_1 dX7_as_6 (q := 7) rfl ?_
  refine mh_callV1 ca_X7_as_7 (shX7_0 h7) (q := 10) rfl (by simp [Value.category]) ⟨Nat.zero_le _, Nat.zero_le _⟩ ?_
  refine sp_X7_isWalker h7 hW (fun v hv ev => ?_) (fun hk => ?_)
  · skip
    subst ev
    have hn8 := hW.1
    obtain ⟨w1, w2, w3, w4, w5, w6, w7, w8, w9⟩ := hW.2.2 v hv
    refine mh_if_ne dX7_as_10 (tgt := 15) (q := 13) rfl rfl (fun _ => ?_) (fun hh => False.elim (by revert hh; decide))
    refine mh_iload_2 dX7_as_15 (q := 16) rfl ?_
    refine mh_iconst_0 dX7_as_16 (q := 17) rfl ?_
    refine mh_iconst_2 dX7_as_17 (q := 18) rfl ?_
    refine mh_callS3 ca_X7_as_18 (q := 21) rfl (by simp [Value.category]) ⟨Nat.zero_le _, Nat.zero_le _⟩ ?_
    refine sp_X7_within (fun cy => ?_) (fun cy => ?_)
    · skip
      refine mh_if_ne dX7_as_21 (tgt := 27) (q := 24) rfl rfl (fun _ => ?_) (fun hh => False.elim (by revert hh; decide))
      refine mh_aload_0 dX7_as_27 (q := 28) rfl ?_
      refine mh_getR fl_X7_59 dX7_as_28 (q := 31) rfl (shX7_0 h7) rfl ?_
      refine mh_iload_1 dX7_as_31 (q := 32) rfl ?_
      refine mh_iald dX7_as_32 (q := 33) rfl (shX7_17 h7) (vp_in_nI (by omega) (by decide)) ?_
      rw [w1]
      refine mh_iload_2 dX7_as_33 (q := 34) rfl ?_
      refine mh_icmp_lt dX7_as_34 (tgt := 41) (q := 37) rfl rfl (fun c34 => ?_) (fun c34 => ?_)
      · skip
        refine mh_aload_0 dX7_as_41 (q := 42) rfl ?_
        refine mh_iconst_2 dX7_as_42 (q := 43) rfl ?_
        refine mh_callV1 ca_X7_as_43 (shX7_0 h7) (q := 46) rfl (by simp [Value.category]) ⟨Nat.zero_le _, Nat.zero_le _⟩ ?_
        refine sp_X7_fails h7 ?_
        rw [mhUF_uu]
        refine mh_ireturn dX7_as_46 rfl rfl ?_
        exact hf v hv rfl cy (Int32.not_le.mpr c34)
      · skip
        refine mh_iconst_1 dX7_as_37 (q := 38) rfl ?_
        refine mh_goto dX7_as_38 (tgt := 46) rfl ?_
        refine mh_ireturn dX7_as_46 rfl rfl ?_
        exact ht v hv rfl cy (Int32.not_lt.mp c34)
    · skip
      refine mh_if_ne dX7_as_21 (tgt := 27) (q := 24) rfl rfl (fun hh => False.elim (by revert hh; decide)) (fun _ => ?_)
      refine mh_bipush (v := (-2)) dX7_as_24 (q := 26) rfl (by decide) ?_
      refine mh_ireturn dX7_as_26 rfl rfl ?_
      exact hb ⟨v, hv, rfl⟩ cy
  · skip
    refine mh_if_ne dX7_as_10 (tgt := 15) (q := 13) rfl rfl (fun hh => False.elim (by revert hh; decide)) (fun _ => ?_)
    refine mh_iconst_m1 dX7_as_13 (q := 14) rfl ?_
    refine mh_ireturn dX7_as_14 rfl rfl ?_
    exact hn hk
set_option maxHeartbeats 4000000 in
set_option maxRecDepth 100000 in
theorem sp_X7_trace {l : Launch} {K : mhX} {Φ : mhQ} {S : List mhS} {F : mhF} {I : mhI} {J : mhJ} {P : mhP} (h7 : mhKX7 S) (hΦ : Φ (some (.int (F 21 1))) S F I J P) : mhOk l K mX7_trace [.ref 21] S F I J P Φ := by
  refine mhOk.of (by decide) (by decide) rfl (Nat.le_of_ble_eq_true rfl) ?_
  refine mh_aload_0 dX7_trace_0 (q := 1) rfl ?_
  refine mh_getI fl_X7_275 dX7_trace_1 (q := 4) rfl (shX7_0 h7) rfl ?_
  refine mh_ireturn dX7_trace_4 rfl rfl ?_
  exact hΦ
set_option maxHeartbeats 4000000 in
set_option maxRecDepth 100000 in
theorem sp_X7_fault {l : Launch} {K : mhX} {Φ : mhQ} {S : List mhS} {F : mhF} {I : mhI} {J : mhJ} {P : mhP} (h7 : mhKX7 S) (hΦ : Φ (some (.int (F 21 0))) S F I J P) : mhOk l K mX7_fault [.ref 21] S F I J P Φ := by
  refine mhOk.of (by decide) (by decide) rfl (Nat.le_of_ble_eq_true rfl) ?_
  refine mh_aload_0 dX7_fault_0 (q := 1) rfl ?_
  refine mh_getI fl_X7_102 dX7_fault_1 (q := 4) rfl (shX7_0 h7) rfl ?_
  refine mh_ireturn dX7_fault_4 rfl rfl ?_
  exact hΦ
set_option maxHeartbeats 4000000 in
set_option maxRecDepth 100000 in
theorem lp_X7_many {l : Launch} {K : mhX} {kc ks : Nat} {Φ : mhQ} {S : List mhS} {F : mhF} {I : mhI} {J : mhJ} {P : mhP} (h7 : mhKX7 S) {nh nr np : Nat} (e5 : F 21 5 = nI nh) (e20 : F 21 20 = nI nr) (e26 : F 21 26 = nI np) {nw : Nat} {wk : Nat → mhWk} (hW : mhWM F I nw wk) {what : Int32} (hΦ : Φ (some (.int (maR nh nr np nw wk what))) S F I J P) : ∀ (m v : Nat), v + m = nw → mhV l K mX7_many kc ks Φ 4 [some (.ref 21), some (.int what), some (.int (nI (wkOut wk v))), some (.int (nI v))] [] S F I J P := by
  have hn8 := hW.1
  intro m
  induction m with
  | zero =>
    intro v hv
    obtain rfl : v = nw := by omega
    refine mh_iload_3 dX7_many_4 (q := 5) rfl ?_
    refine mh_aload_0 dX7_many_5 (q := 6) rfl ?_
    refine mh_getI fl_X7_219 dX7_many_6 (q := 9) rfl (shX7_0 h7) rfl ?_
    rw [hW.2.1]
    refine mh_icmp_ge dX7_many_9 (tgt := 37) (q := 12) rfl rfl (fun _ => ?_) (fun hh => absurd (nI_le (Nat.le_refl _) (by omega)) hh)
    refine mh_iload_1 dX7_many_37 (q := 38) rfl ?_
    refine mh_tsw dX7_many_38 (tgt := 94) rfl (fun c38 => ?_) (fun i38 j38 c38 => ?_)
    · skip
      replace c38 : _ < (0 : Int32) ∨ (4 : Int32) < _ := c38.imp Int32.lt_iff_toInt_lt.mpr Int32.lt_iff_toInt_lt.mpr
      refine mh_bipush (v := (-2)) dX7_many_94 (q := 96) rfl (by decide) ?_
      refine mh_ireturn dX7_many_96 rfl rfl ?_
      exact mh_cl hΦ (by grind [maR])
    · rcases (show i38 = 0 ∨ i38 = 1 ∨ i38 = 2 ∨ i38 = 3 ∨ i38 = 4 by omega) with rfl | rfl | rfl | rfl | rfl
      · refine ⟨34, 72, rfl, rfl, ?_⟩
        replace c38 : _ = (0 : Int32) := Int32.toInt_inj.mp c38
        refine mh_aload_0 dX7_many_72 (q := 73) rfl ?_
        refine mh_getI fl_X7_112 dX7_many_73 (q := 76) rfl (shX7_0 h7) rfl ?_
        rw [e5]
        refine mh_ireturn dX7_many_76 rfl rfl ?_
        exact mh_cl hΦ (by grind [maR])
      · refine ⟨39, 77, rfl, rfl, ?_⟩
        replace c38 : _ = (1 : Int32) := Int32.toInt_inj.mp c38
        refine mh_aload_0 dX7_many_77 (q := 78) rfl ?_
        refine mh_getI fl_X7_213 dX7_many_78 (q := 81) rfl (shX7_0 h7) rfl ?_
        rw [e20]
        refine mh_ireturn dX7_many_81 rfl rfl ?_
        exact mh_cl hΦ (by grind [maR])
      · refine ⟨44, 82, rfl, rfl, ?_⟩
        replace c38 : _ = (2 : Int32) := Int32.toInt_inj.mp c38
        refine mh_aload_0 dX7_many_82 (q := 83) rfl ?_
        refine mh_getI fl_X7_216 dX7_many_83 (q := 86) rfl (shX7_0 h7) rfl ?_
        rw [e26]
        refine mh_ireturn dX7_many_86 rfl rfl ?_
        exact mh_cl hΦ (by grind [maR])
      · refine ⟨49, 87, rfl, rfl, ?_⟩
        replace c38 : _ = (3 : Int32) := Int32.toInt_inj.mp c38
        refine mh_aload_0 dX7_many_87 (q := 88) rfl ?_
        refine mh_getI fl_X7_219 dX7_many_88 (q := 91) rfl (shX7_0 h7) rfl ?_
        rw [hW.2.1]
        refine mh_ireturn dX7_many_91 rfl rfl ?_
        exact mh_cl hΦ (by grind [maR])
      · refine ⟨54, 92, rfl, rfl, ?_⟩
        replace c38 : _ = (4 : Int32) := Int32.toInt_inj.mp c38
        refine mh_iload_2 dX7_many_92 (q := 93) rfl ?_
        refine mh_ireturn dX7_many_93 rfl rfl ?_
        exact mh_cl hΦ (by grind [maR])
  | succ m ih =>
    intro v hvm
    have hv : v < nw := by omega
    have h9 := ih (v + 1) (by omega)
    have es : wkOut wk (v + 1) = wkOut wk v + (if (wk v).2.2.1 = -9 then 1 else 0) := rfl
    rw [es] at h9
    obtain ⟨w1, w2, w3, w4, w5, w6, w7, w8, w9⟩ := hW.2.2 v hv
    refine mh_iload_3 dX7_many_4 (q := 5) rfl ?_
    refine mh_aload_0 dX7_many_5 (q := 6) rfl ?_
    refine mh_getI fl_X7_219 dX7_many_6 (q := 9) rfl (shX7_0 h7) rfl ?_
    rw [hW.2.1]
    refine mh_icmp_ge dX7_many_9 (tgt := 37) (q := 12) rfl rfl (fun hh => absurd hh (nI_ge (by omega) (by omega))) (fun _ => ?_)
    refine mh_iload_2 dX7_many_12 (q := 13) rfl ?_
    refine mh_aload_0 dX7_many_13 (q := 14) rfl ?_
    refine mh_getR fl_X7_65 dX7_many_14 (q := 17) rfl (shX7_0 h7) rfl ?_
    refine mh_iload_3 dX7_many_17 (q := 18) rfl ?_
    refine mh_iald dX7_many_18 (q := 19) rfl (shX7_19 h7) (vp_in_nI (by omega) (by decide)) ?_
    rw [w3]
    refine mh_bipush (v := (-9)) dX7_many_19 (q := 21) rfl (by decide) ?_
    refine mh_icmp_ne dX7_many_21 (tgt := 28) (q := 24) rfl rfl (fun c21 => ?_) (fun c21 => ?_)
    · skip
      refine mh_iconst_0 dX7_many_28 (q := 29) rfl ?_
      refine mh_iadd dX7_many_29 (q := 30) rfl ?_
      refine mh_istore_2 dX7_many_30 (q := 31) rfl ?_
      refine mh_iinc_3 (v := 1) dX7_many_31 (q := 34) rfl (by decide) ?_
      refine mh_goto dX7_many_34 (tgt := 4) rfl ?_
      rw [nI_1, Int32.add_zero]
      rw [if_neg c21, Nat.add_zero] at h9
      exact h9
    · skip
      refine mh_iconst_1 dX7_many_24 (q := 25) rfl ?_
      refine mh_goto dX7_many_25 (tgt := 29) rfl ?_
      refine mh_iadd dX7_many_29 (q := 30) rfl ?_
      refine mh_istore_2 dX7_many_30 (q := 31) rfl ?_
      refine mh_iinc_3 (v := 1) dX7_many_31 (q := 34) rfl (by decide) ?_
      refine mh_goto dX7_many_34 (tgt := 4) rfl ?_
      rw [nI_1, nI_1]
      rw [if_pos c21] at h9
      exact h9
set_option maxHeartbeats 4000000 in
set_option maxRecDepth 100000 in
theorem sp_X7_many {l : Launch} {K : mhX} {Φ : mhQ} {S : List mhS} {F : mhF} {I : mhI} {J : mhJ} {P : mhP} (h7 : mhKX7 S) {nh nr np : Nat} (e5 : F 21 5 = nI nh) (e20 : F 21 20 = nI nr) (e26 : F 21 26 = nI np) {nw : Nat} {wk : Nat → mhWk} (hW : mhWM F I nw wk) {what : Int32} (hΦ : Φ (some (.int (maR nh nr np nw wk what))) S F I J P) : mhOk l K mX7_many [.ref 21, .int what] S F I J P Φ := by
  refine mhOk.of (by decide) (by decide) rfl (Nat.le_of_ble_eq_true rfl) ?_
  refine mh_iconst_0 dX7_many_0 (q := 1) rfl ?_
  refine mh_istore_2 dX7_many_1 (q := 2) rfl ?_
  refine mh_iconst_0 dX7_many_2 (q := 3) rfl ?_
  refine mh_istore_3 dX7_many_3 (q := 4) rfl ?_
  exact lp_X7_many (kc := mX7_many.2.2.2.2.cells) (ks := mX7_many.2.2.2.2.slots) h7 e5 e20 e26 hW hΦ nw 0 (Nat.zero_add _)
