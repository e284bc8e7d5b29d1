/-! the blind, and what keeps one in for longest: by the class -/
def hnd (r c k : Nat) : Nat := if r % 2 = 0 then (c + 1 + k) % 3 else (c + 2 - k) % 3
theorem hnd_lt {r c k : Nat} : hnd r c k < 3 := by unfold hnd; split <;> omega
/-- the first open way of the last n looked at -/
def foG (w h : Nat) (kd : Nat → Int32) (r c : Nat) : Nat → Option Nat
  | 0 => none
  | n + 1 => if kd (gSide w h r (hnd r c (2 - n))) = 2 then some (hnd r c (2 - n)) else foG w h kd r c n
theorem foG_lt {w h : Nat} {kd : Nat → Int32} {r c d : Nat} : ∀ {n : Nat}, foG w h kd r c n = some d → d < 3 ∧ kd (gSide w h r d) = 2
  | 0, z => by cases z
  | n + 1, z => by
    unfold foG at z
    split at z
    · rename_i q
      cases z
      exact ⟨hnd_lt, q⟩
    · exact foG_lt z
def blT (w h : Nat) (kd : Nat → Int32) : Nat → Nat → Nat → Nat → Int32
  | 0, _, _, _ => -9
  | m + 1, t, r, c => match foG w h kd r c 3 with
    | none => -9
    | some d => if gB w h r d = -9 then nI t else blT w h kd m (t + 1) (gB w h r d).toNatClampNeg d
theorem foG_congr {w h : Nat} {kd kd' : Nat → Int32} (g : gOk w h) {r c : Nat} (hr : r < gRooms w h) (hk : ∀ k, k < gSides w h → kd k = kd' k) : ∀ {n : Nat}, foG w h kd r c n = foG w h kd' r c n
  | 0 => rfl
  | n + 1 => by unfold foG; rw [hk _ (gT1 g hr hnd_lt).2.1, foG_congr g hr hk]
def bv (s : Int32) (k : Nat) : Int32 := if (s >>> (nI k &&& 31)) &&& 1 = 1 then 2 else 1
/-- panes with some of them set -/
def ksF (kd : Nat → Int32) (tl : Nat → Nat) (s : Int32) : Nat → Nat → Int32
  | 0, x => kd x
  | k + 1, x => if x = tl k then bv s k else ksF kd tl s k x
noncomputable def kpT (w h : Nat) (kd : Nat → Int32) (r c : Nat) : Int32 := @ite _ (fair w h kd) (Classical.propDecidable _) (blT w h kd 200 1 r c) (-9)
noncomputable def kpF (w h : Nat) (kd : Nat → Int32) (tl : Nat → Nat) (n r c : Nat) : Nat → Int32 × Int32
  | 0 => (-9, -9)
  | s + 1 => if (kpF w h kd tl n r c s).1 < kpT w h (ksF kd tl (nI s) n) r c then (kpT w h (ksF kd tl (nI s) n) r c, nI s) else kpF w h kd tl n r c s
theorem pw2 : ∀ n ∈ List.range 9, (1 : Int32) <<< (nI n &&& 31) = nI (2 ^ n) := by decide +kernel
set_option maxHeartbeats 4000000 in
set_option maxRecDepth 100000 in
theorem sp_X1_handWay {l : Launch} {K : mhX} {Φ : mhQ} {S : List mhS} {F : mhF} {I : mhI} {J : mhJ} {P : mhP} {r c k : Nat} (hr : r < 2 ^ 31) (hc : c < 3) (hk : k < 3) (hΦ : Φ (some (.int (nI (hnd r c k)))) S F I J P) : mhOk l K mX1_handWay [.int (nI r), .int (nI c), .int (nI k)] S F I J P Φ := by
  refine mhOk.of (by decide) (by decide) rfl (Nat.le_of_ble_eq_true rfl) ?_
  refine mh_iload_0 dX1_handWay_0 (q := 1) rfl ?_
  refine mh_iconst_2 dX1_handWay_1 (q := 2) rfl ?_
  refine mh_irem dX1_handWay_2 (q := 3) rfl (by decide) ?_
  refine mh_if_ne dX1_handWay_3 (tgt := 14) (q := 6) rfl rfl (fun c3 => ?_) (fun c3 => ?_)
  · skip
    rw [mh_ev0 r hr] at c3
    refine mh_iload_1 dX1_handWay_14 (q := 15) rfl ?_
    refine mh_iconst_2 dX1_handWay_15 (q := 16) rfl ?_
    refine mh_iadd dX1_handWay_16 (q := 17) rfl ?_
    rw [show nI c + 2 = nI (c + 2) from nI_add _ 2]
    refine mh_iload_2 dX1_handWay_17 (q := 18) rfl ?_
    refine mh_isub dX1_handWay_18 (q := 19) rfl ?_
    rw [pk_sub (by omega)]
    refine mh_iconst_3 dX1_handWay_19 (q := 20) rfl ?_
    refine mh_irem dX1_handWay_20 (q := 21) rfl (by decide) ?_
    rw [mh_m3 (by omega)]
    refine mh_ireturn dX1_handWay_21 rfl rfl ?_
    unfold hnd at hΦ
    rw [if_neg c3] at hΦ
    exact hΦ
  · skip
    rw [mh_ev0 r hr] at c3
    refine mh_iload_1 dX1_handWay_6 (q := 7) rfl ?_
    refine mh_iconst_1 dX1_handWay_7 (q := 8) rfl ?_
    refine mh_iadd dX1_handWay_8 (q := 9) rfl ?_
    rw [nI_1]
    refine mh_iload_2 dX1_handWay_9 (q := 10) rfl ?_
    refine mh_iadd dX1_handWay_10 (q := 11) rfl ?_
    rw [nI_add]
    refine mh_goto dX1_handWay_11 (tgt := 19) rfl ?_
    refine mh_iconst_3 dX1_handWay_19 (q := 20) rfl ?_
    refine mh_irem dX1_handWay_20 (q := 21) rfl (by decide) ?_
    rw [mh_m3 (by omega)]
    refine mh_ireturn dX1_handWay_21 rfl rfl ?_
    unfold hnd at hΦ
    rw [if_pos c3] at hΦ
    exact hΦ
set_option maxHeartbeats 4000000 in
set_option maxRecDepth 100000 in
theorem lp_X1_firstOpen {l : Launch} {K : mhX} {kc ks : Nat} {Φ : mhQ} {S : List mhS} {F : mhF} {I : mhI} {J : mhJ} {P : mhP} {a w h : Nat} (hH : mhHs S F I a w h) {b r c : Nat} {kd : Nat → Int32} (hS : S[b]? = some (.inl (0, 43))) (hkd : ∀ k, k < gSides w h → I b (nI k) = kd k) (hr : r < gRooms w h) (hc : c < 3) (hΦ : Φ (some (.int (onN (foG w h kd r c 3)))) S F I J P) : ∀ (m i : Nat) (o5 : Option Value), i + m = 3 → foG w h kd r c 3 = foG w h kd r c m → mhV l K mX1_firstOpen kc ks Φ 3 [some (.ref a), some (.ref b), some (.int (nI r)), some (.int (nI c)), some (.int (nI i)), o5] [] S F I J P := by
  have hbd := gBd hH.2.1
  intro m
  induction m with
  | zero =>
    intro i o5 hi hq
    obtain rfl : i = 3 := by omega
    rw [hq] at hΦ
    refine mh_iload_4 dX1_firstOpen_3 (q := 5) rfl ?_
    refine mh_iconst_3 dX1_firstOpen_5 (q := 6) rfl ?_
    refine mh_icmp_ge dX1_firstOpen_6 (tgt := 40) (q := 9) rfl rfl (fun _ => ?_) (fun hh => absurd (show (3 : Int32) ≤ nI 3 by decide) hh)
    refine mh_bipush (v := (-9)) dX1_firstOpen_40 (q := 42) rfl (by decide) ?_
    refine mh_ireturn dX1_firstOpen_42 rfl rfl ?_
    exact hΦ
  | succ m ih =>
    intro i o5 hi hq
    have hi3 : i < 3 := by omega
    have t1 := (gT1 hH.2.1 hr (hnd_lt (r := r) (c := c) (k := i))).2.1
    have e2 : 2 - m = i := by omega
    have es : foG w h kd r c (m + 1) = if kd (gSide w h r (hnd r c i)) = 2 then some (hnd r c i) else foG w h kd r c m := by rw [← e2]; rfl
    rw [es] at hq
    refine mh_iload_4 dX1_firstOpen_3 (q := 5) rfl ?_
    refine mh_iconst_3 dX1_firstOpen_5 (q := 6) rfl ?_
    refine mh_icmp_ge dX1_firstOpen_6 (tgt := 40) (q := 9) rfl rfl (fun hh => absurd hh (show ¬ (3 : Int32) ≤ nI i from nI_ge (b := 3) (by omega) (by decide))) (fun _ => ?_)
    refine mh_iload_2 dX1_firstOpen_9 (q := 10) rfl ?_
    refine mh_iload_3 dX1_firstOpen_10 (q := 11) rfl ?_
    refine mh_iload_4 dX1_firstOpen_11 (q := 13) rfl ?_
    refine mh_callS3 ca_X1_firstOpen_13 (q := 16) rfl (by simp [Value.category]) ⟨Nat.zero_le _, Nat.zero_le _⟩ ?_
    refine sp_X1_handWay (by omega) hc hi3 ?_
    refine mh_istore_5 dX1_firstOpen_16 (q := 18) rfl ?_
    refine mh_aload_1 dX1_firstOpen_18 (q := 19) rfl ?_
    refine mh_aload_0 dX1_firstOpen_19 (q := 20) rfl ?_
    refine mh_iload_2 dX1_firstOpen_20 (q := 21) rfl ?_
    refine mh_iload_5 dX1_firstOpen_21 (q := 23) rfl ?_
    refine mh_callV2 ca_X1_firstOpen_23 (shX1_0 hH.1) (q := 26) rfl (by simp [Value.category]) ⟨Nat.zero_le _, Nat.zero_le _⟩ ?_
    refine sp_X1_sideOf hH hr hnd_lt ?_
    refine mh_iald dX1_firstOpen_26 (q := 27) rfl hS (vp_in_nI (by omega) (by decide)) ?_
    rw [hkd _ t1]
    refine mh_iconst_2 dX1_firstOpen_27 (q := 28) rfl ?_
    refine mh_icmp_ne dX1_firstOpen_28 (tgt := 34) (q := 31) rfl rfl (fun c28 => ?_) (fun c28 => ?_)
    · skip
      refine mh_iinc_4 (v := 1) dX1_firstOpen_34 (q := 37) rfl (by decide) ?_
      refine mh_goto dX1_firstOpen_37 (tgt := 3) rfl ?_
      rw [nI_1]
      rw [if_neg c28] at hq
      exact ih (i + 1) _ (by omega) hq
    · skip
      refine mh_iload_5 dX1_firstOpen_31 (q := 33) rfl ?_
      refine mh_ireturn dX1_firstOpen_33 rfl rfl ?_
      rw [if_pos c28] at hq
      rw [hq] at hΦ
      exact hΦ
set_option maxHeartbeats 4000000 in
set_option maxRecDepth 100000 in
theorem sp_X1_firstOpen {l : Launch} {K : mhX} {Φ : mhQ} {S : List mhS} {F : mhF} {I : mhI} {J : mhJ} {P : mhP} {a w h : Nat} (hH : mhHs S F I a w h) {b r c : Nat} {kd : Nat → Int32} (hS : S[b]? = some (.inl (0, 43))) (hkd : ∀ k, k < gSides w h → I b (nI k) = kd k) (hr : r < gRooms w h) (hc : c < 3) (hΦ : Φ (some (.int (onN (foG w h kd r c 3)))) S F I J P) : mhOk l K mX1_firstOpen [.ref a, .ref b, .int (nI r), .int (nI c)] S F I J P Φ := by
  refine mhOk.of (by decide) (by decide) rfl (Nat.le_of_ble_eq_true rfl) ?_
  refine mh_iconst_0 dX1_firstOpen_0 (q := 1) rfl ?_
  refine mh_istore_4 dX1_firstOpen_1 (q := 3) rfl ?_
  exact lp_X1_firstOpen (kc := mX1_firstOpen.2.2.2.2.cells) (ks := mX1_firstOpen.2.2.2.2.slots) hH hS hkd hr hc hΦ 3 0 _ rfl rfl
set_option maxHeartbeats 4000000 in
set_option maxRecDepth 100000 in
theorem lp_X1_ticksOfBlind {l : Launch} {K : mhX} {kc ks : Nat} {Φ : mhQ} {S : List mhS} {F : mhF} {I : mhI} {J : mhJ} {P : mhP} {a w h : Nat} (hH : mhHs S F I a w h) {kd : Nat → Int32} (hkd : ∀ k, k < gSides w h → I (a + 7) (nI k) = kd k) {o1 o2 : Option Value} : ∀ (m t r c : Nat), t + m = 201 → r < gRooms w h → c < 3 → Φ (some (.int (blT w h kd m t r c))) S F I J P → mhV l K mX1_ticksOfBlind kc ks Φ 8 [some (.ref a), o1, o2, some (.int (nI r)), some (.int (nI c)), some (.int (nI t))] [] S F I J P := by
  have hbd := gBd hH.2.1
  intro m
  induction m with
  | zero =>
    intro t r c ht hr hc hΦ
    obtain rfl : t = 201 := by omega
    refine mh_iload_5 dX1_ticksOfBlind_8 (q := 10) rfl ?_
    refine mh_sipush (v := 200) dX1_ticksOfBlind_10 (q := 13) rfl (by decide) ?_
    refine mh_icmp_gt dX1_ticksOfBlind_13 (tgt := 62) (q := 16) rfl rfl (fun _ => ?_) (fun hh => absurd (show (200 : Int32) < nI 201 by decide) hh)
    refine mh_bipush (v := (-9)) dX1_ticksOfBlind_62 (q := 64) rfl (by decide) ?_
    refine mh_ireturn dX1_ticksOfBlind_64 rfl rfl ?_
    exact hΦ
  | succ m ih =>
    intro t r c ht hr hc hΦ
    unfold blT at hΦ
    refine mh_iload_5 dX1_ticksOfBlind_8 (q := 10) rfl ?_
    refine mh_sipush (v := 200) dX1_ticksOfBlind_10 (q := 13) rfl (by decide) ?_
    refine mh_icmp_gt dX1_ticksOfBlind_13 (tgt := 62) (q := 16) rfl rfl (fun hh => absurd hh (show ¬ (200 : Int32) < nI t from Int32.not_lt.mpr ((nI_leI (b := 200) (by omega) (by decide)).mpr (by omega)))) (fun _ => ?_)
    refine mh_aload_0 dX1_ticksOfBlind_16 (q := 17) rfl ?_
    refine mh_aload_0 dX1_ticksOfBlind_17 (q := 18) rfl ?_
    refine mh_getR fl_X1_43 dX1_ticksOfBlind_18 (q := 21) rfl (shX1_0 hH.1) rfl ?_
    refine mh_iload_3 dX1_ticksOfBlind_21 (q := 22) rfl ?_
    refine mh_iload_4 dX1_ticksOfBlind_22 (q := 24) rfl ?_
    refine mh_callV3 ca_X1_ticksOfBlind_24 (shX1_0 hH.1) (q := 27) rfl (by simp [Value.category]) ⟨Nat.zero_le _, Nat.zero_le _⟩ ?_
    refine sp_X1_firstOpen hH (shX1_7 hH.1) hkd hr hc ?_
    rcases hfo : foG w h kd r c 3 with _ | d
    · skip
      rw [hfo] at hΦ
      dsimp only [onN] at hΦ ⊢
      refine mh_istore_4 dX1_ticksOfBlind_27 (q := 29) rfl ?_
      refine mh_iload_4 dX1_ticksOfBlind_29 (q := 31) rfl ?_
      refine mh_bipush (v := (-9)) dX1_ticksOfBlind_31 (q := 33) rfl (by decide) ?_
      refine mh_icmp_ne dX1_ticksOfBlind_33 (tgt := 39) (q := 36) rfl rfl (fun hh => False.elim (by revert hh; decide)) (fun _ => ?_)
      refine mh_bipush (v := (-9)) dX1_ticksOfBlind_36 (q := 38) rfl (by decide) ?_
      refine mh_ireturn dX1_ticksOfBlind_38 rfl rfl ?_
      exact hΦ
    · skip
      have hd := (foG_lt hfo).1
      rw [hfo] at hΦ
      dsimp only [onN] at hΦ ⊢
      refine mh_istore_4 dX1_ticksOfBlind_27 (q := 29) rfl ?_
      refine mh_iload_4 dX1_ticksOfBlind_29 (q := 31) rfl ?_
      refine mh_bipush (v := (-9)) dX1_ticksOfBlind_31 (q := 33) rfl (by decide) ?_
      refine mh_icmp_ne dX1_ticksOfBlind_33 (tgt := 39) (q := 36) rfl rfl (fun _ => ?_) (fun hh => absurd hh (mh_n9 (by omega)))
      refine mh_aload_0 dX1_ticksOfBlind_39 (q := 40) rfl ?_
      refine mh_iload_3 dX1_ticksOfBlind_40 (q := 41) rfl ?_
      refine mh_iload_4 dX1_ticksOfBlind_41 (q := 43) rfl ?_
      refine mh_callV2 ca_X1_ticksOfBlind_43 (shX1_0 hH.1) (q := 46) rfl (by simp [Value.category]) ⟨Nat.zero_le _, Nat.zero_le _⟩ ?_
      refine sp_X1_behind hH hr hd ?_
      refine mh_istore_3 dX1_ticksOfBlind_46 (q := 47) rfl ?_
      refine mh_iload_3 dX1_ticksOfBlind_47 (q := 48) rfl ?_
      refine mh_bipush (v := (-9)) dX1_ticksOfBlind_48 (q := 50) rfl (by decide) ?_
      refine mh_icmp_ne dX1_ticksOfBlind_50 (tgt := 56) (q := 53) rfl rfl (fun c50 => ?_) (fun c50 => ?_)
      · skip
        refine mh_iinc_5 (v := 1) dX1_ticksOfBlind_56 (q := 59) rfl (by decide) ?_
        refine mh_goto dX1_ticksOfBlind_59 (tgt := 8) rfl ?_
        rw [nI_1]
        rw [if_neg c50] at hΦ
        have gn := gB_nat hH.2.1 hr hd c50
        have e := ih (t + 1) (gB w h r d).toNatClampNeg d (by omega) gn.1 hd hΦ
        rw [← gn.2] at e
        exact e
      · skip
        refine mh_iload_5 dX1_ticksOfBlind_53 (q := 55) rfl ?_
        refine mh_ireturn dX1_ticksOfBlind_55 rfl rfl ?_
        rw [if_pos c50] at hΦ
        exact hΦ
set_option maxHeartbeats 4000000 in
set_option maxRecDepth 100000 in
theorem sp_X1_ticksOfBlind {l : Launch} {K : mhX} {Φ : mhQ} {S : List mhS} {F : mhF} {I : mhI} {J : mhJ} {P : mhP} {a w h : Nat} (hH : mhHs S F I a w h) {kd : Nat → Int32} (hkd : ∀ k, k < gSides w h → I (a + 7) (nI k) = kd k) {r c : Nat} (hr : r < gRooms w h) (hc : c < 3) (hΦ : Φ (some (.int (blT w h kd 200 1 r c))) S F I J P) : mhOk l K mX1_ticksOfBlind [.ref a, .int (nI r), .int (nI c)] S F I J P Φ := by
  refine mhOk.of (by decide) (by decide) rfl (Nat.le_of_ble_eq_true rfl) ?_
  refine mh_iload_1 dX1_ticksOfBlind_0 (q := 1) rfl ?_
  refine mh_istore_3 dX1_ticksOfBlind_1 (q := 2) rfl ?_
  refine mh_iload_2 dX1_ticksOfBlind_2 (q := 3) rfl ?_
  refine mh_istore_4 dX1_ticksOfBlind_3 (q := 5) rfl ?_
  refine mh_iconst_1 dX1_ticksOfBlind_5 (q := 6) rfl ?_
  refine mh_istore_5 dX1_ticksOfBlind_6 (q := 8) rfl ?_
  exact lp_X1_ticksOfBlind (kc := mX1_ticksOfBlind.2.2.2.2.cells) (ks := mX1_ticksOfBlind.2.2.2.2.slots) hH hkd 200 1 r c rfl hr hc hΦ
set_option maxHeartbeats 4000000 in
set_option maxRecDepth 100000 in
theorem lp_X1_keepIn {l : Launch} {K : mhX} {kc ks : Nat} {Φ : mhQ} {S : List mhS} {J : mhJ} {P : mhP} {F : mhF} {a b w h n ii r c : Nat} {kd cl : Nat → Int32} (hb : mhKX3 S b) (hbd2 : b + 2 ≤ a) (hr : r < gRooms w h) (hc : c < 3) (hn : n ≤ 8) (hin : ii + n ≤ 60) (htl : ∀ x, x < n → ∃ t, t < gSides w h ∧ cl (ii + x) = nI t) {s : Nat} : ∀ (m q : Nat) (I : mhI), q + m = n → mhHs S F I a w h → (∀ c, c < 60 → I (b + 1) (nI c) = cl c) → (∀ x, x < gSides w h → ((∃ y, y < q ∧ cl (ii + y) = nI x) ∨ (∀ y, y < n → cl (ii + y) ≠ nI x)) → I (a + 7) (nI x) = ksF kd (fun x => (cl (ii + x)).toNatClampNeg) (nI s) q x) → (∀ I2 : mhI, (∀ c y, c ≠ a + 7 → I2 c y = I c y) → (∀ x, x < gSides w h → ((∃ y, y < n ∧ cl (ii + y) = nI x) ∨ (∀ y, y < n → cl (ii + y) ≠ nI x)) → I2 (a + 7) (nI x) = ksF kd (fun x => (cl (ii + x)).toNatClampNeg) (nI s) n x) → mhV l K mX1_keepLongest kc ks Φ 85 [some (.ref a), some (.ref b), some (.int (nI ii)), some (.int (nI n)), some (.int (nI r)), some (.int (nI c)), some (.int (nI s)), some (.int (nI n))] [] S F I2 J P) → mhV l K mX1_keepLongest kc ks Φ 43 [some (.ref a), some (.ref b), some (.int (nI ii)), some (.int (nI n)), some (.int (nI r)), some (.int (nI c)), some (.int (nI s)), some (.int (nI q))] [] S F I J P := by
  intro m
  induction m with
  | zero =>
    intro q I hq hH hcl hp hΦ
    obtain rfl : q = n := by omega
    refine mh_iload_7 dX1_keepLongest_43 (q := 45) rfl ?_
    refine mh_iload_3 dX1_keepLongest_45 (q := 46) rfl ?_
    refine mh_icmp_ge dX1_keepLongest_46 (tgt := 85) (q := 49) rfl rfl (fun _ => ?_) (fun hh => absurd (nI_le (Nat.le_refl _) (by omega)) hh)
    exact hΦ I (fun _ _ _ => rfl) hp
  | succ m ih =>
    intro q I hq hH hcl hp hΦ
    have hbd := gBd hH.2.1
    obtain ⟨t, ht, et⟩ := htl q (by omega)
    refine mh_iload_7 dX1_keepLongest_43 (q := 45) rfl ?_
    refine mh_iload_3 dX1_keepLongest_45 (q := 46) rfl ?_
    refine mh_icmp_ge dX1_keepLongest_46 (tgt := 85) (q := 49) rfl rfl (fun hh => absurd hh (nI_ge (by omega) (by omega))) (fun _ => ?_)
    refine mh_aload_0 dX1_keepLongest_49 (q := 50) rfl ?_
    refine mh_getR fl_X1_43 dX1_keepLongest_50 (q := 53) rfl (shX1_0 hH.1) rfl ?_
    refine mh_aload_1 dX1_keepLongest_53 (q := 54) rfl ?_
    refine mh_getR fl_X1_130 dX1_keepLongest_54 (q := 57) rfl (shX3_0 hb) rfl ?_
    refine mh_iload_2 dX1_keepLongest_57 (q := 58) rfl ?_
    refine mh_iload_7 dX1_keepLongest_58 (q := 60) rfl ?_
    refine mh_iadd dX1_keepLongest_60 (q := 61) rfl ?_
    rw [nI_add]
    refine mh_iald dX1_keepLongest_61 (q := 62) rfl (shX3_1 hb) (vp_in_nI (by omega) (by decide)) ?_
    rw [hcl _ (by omega), et]
    refine mh_iload_6 dX1_keepLongest_62 (q := 64) rfl ?_
    refine mh_iload_7 dX1_keepLongest_64 (q := 66) rfl ?_
    refine mh_ishr dX1_keepLongest_66 (q := 67) rfl ?_
    refine mh_iconst_1 dX1_keepLongest_67 (q := 68) rfl ?_
    refine mh_iand dX1_keepLongest_68 (q := 69) rfl ?_
    refine mh_iconst_1 dX1_keepLongest_69 (q := 70) rfl ?_
    refine mh_icmp_ne dX1_keepLongest_70 (tgt := 77) (q := 73) rfl rfl (fun c70 => ?_) (fun c70 => ?_)
    · skip
      refine mh_iconst_1 dX1_keepLongest_77 (q := 78) rfl ?_
      refine mh_iast dX1_keepLongest_78 (q := 79) rfl (shX1_7 hH.1) (by decide) (vp_in_nI (by omega) (by decide)) ?_
      refine mh_iinc_7 (v := 1) dX1_keepLongest_79 (q := 82) rfl (by decide) ?_
      refine mh_goto dX1_keepLongest_82 (tgt := 43) rfl ?_
      rw [nI_1]
      have eb : bv (nI s) q = 1 := if_neg c70
      refine ih (q + 1) _ (by omega) (hH.frh (F' := F) ⟨fun _ _ _ => rfl, fun c y e => mhUI_ne (by omega)⟩) (fun c hc => (mhUI_ne (by omega)).trans (hcl c hc)) (fun x hx hxx => ?_) (fun I2 e1 e2 => hΦ I2 (fun c y hc => (e1 c y hc).trans (mhUI_ne hc)) e2)
      rw [mhUI_at (by omega) (by omega)]
      have eu : ksF kd (fun x => (cl (ii + x)).toNatClampNeg) (nI s) (q + 1) x = if x = (cl (ii + q)).toNatClampNeg then bv (nI s) q else ksF kd (fun x => (cl (ii + x)).toNatClampNeg) (nI s) q x := rfl
      rw [eu, et, nI_clamp (by omega), eb]
      by_cases e : x = t
      · rw [if_pos ⟨rfl, e⟩, if_pos e]
      · rw [if_neg (fun z => e z.2), if_neg e]
        refine hp x hx (hxx.imp (fun z => ?_) id)
        obtain ⟨y, y1, y2⟩ := z
        rcases Nat.lt_or_ge y q with u | u
        · exact ⟨y, u, y2⟩
        · rw [show y = q by omega, et] at y2
          exact absurd ((nI_eq (by omega) (by omega)).mp y2).symm e
    · skip
      refine mh_iconst_2 dX1_keepLongest_73 (q := 74) rfl ?_
      refine mh_goto dX1_keepLongest_74 (tgt := 78) rfl ?_
      refine mh_iast dX1_keepLongest_78 (q := 79) rfl (shX1_7 hH.1) (by decide) (vp_in_nI (by omega) (by decide)) ?_
      refine mh_iinc_7 (v := 1) dX1_keepLongest_79 (q := 82) rfl (by decide) ?_
      refine mh_goto dX1_keepLongest_82 (tgt := 43) rfl ?_
      rw [nI_1]
      have eb : bv (nI s) q = 2 := if_pos c70
      refine ih (q + 1) _ (by omega) (hH.frh (F' := F) ⟨fun _ _ _ => rfl, fun c y e => mhUI_ne (by omega)⟩) (fun c hc => (mhUI_ne (by omega)).trans (hcl c hc)) (fun x hx hxx => ?_) (fun I2 e1 e2 => hΦ I2 (fun c y hc => (e1 c y hc).trans (mhUI_ne hc)) e2)
      rw [mhUI_at (by omega) (by omega)]
      have eu : ksF kd (fun x => (cl (ii + x)).toNatClampNeg) (nI s) (q + 1) x = if x = (cl (ii + q)).toNatClampNeg then bv (nI s) q else ksF kd (fun x => (cl (ii + x)).toNatClampNeg) (nI s) q x := rfl
      rw [eu, et, nI_clamp (by omega), eb]
      by_cases e : x = t
      · rw [if_pos ⟨rfl, e⟩, if_pos e]
      · rw [if_neg (fun z => e z.2), if_neg e]
        refine hp x hx (hxx.imp (fun z => ?_) id)
        obtain ⟨y, y1, y2⟩ := z
        rcases Nat.lt_or_ge y q with u | u
        · exact ⟨y, u, y2⟩
        · rw [show y = q by omega, et] at y2
          exact absurd ((nI_eq (by omega) (by omega)).mp y2).symm e
theorem ksF_off {kd : Nat → Int32} {tl : Nat → Nat} {s : Int32} {x : Nat} : ∀ {n : Nat}, (∀ y, y < n → ¬ tl y = x) → ksF kd tl s n x = kd x
  | 0, _ => rfl
  | n + 1, h => by
    show (if x = tl n then bv s n else ksF kd tl s n x) = kd x
    rw [if_neg (fun e => h n (by omega) e.symm), ksF_off (fun y hy => h y (by omega))]
set_option maxHeartbeats 4000000 in
set_option maxRecDepth 100000 in
theorem lp_X1_keepLongest {l : Launch} {K : mhX} {kc ks : Nat} {Φ : mhQ} {S : List mhS} {J : mhJ} {P : mhP} {a b w h n ii r c : Nat} {kd cl : Nat → Int32} (hb : mhKX3 S b) (hbd2 : b + 2 ≤ a) (hr : r < gRooms w h) (hc : c < 3) (hn : n ≤ 8) (hin : ii + n ≤ 60) (htl : ∀ x, x < n → ∃ t, t < gSides w h ∧ cl (ii + x) = nI t) : ∀ (m s : Nat) (F : mhF) (I : mhI) (o7 : Option Value), s + m = 2 ^ n → mhHs S F I a w h → (∀ c, c < 60 → I (b + 1) (nI c) = cl c) → (∀ x, x < gSides w h → (∀ y, y < n → cl (ii + y) ≠ nI x) → I (a + 7) (nI x) = kd x) → F a 11 = (kpF w h kd (fun x => (cl (ii + x)).toNatClampNeg) n r c s).1 → F a 12 = (kpF w h kd (fun x => (cl (ii + x)).toNatClampNeg) n r c s).2 → (∀ (F2 : mhF) (I2 : mhI), F2 a 11 = (kpF w h kd (fun x => (cl (ii + x)).toNatClampNeg) n r c (2 ^ n)).1 → F2 a 12 = (kpF w h kd (fun x => (cl (ii + x)).toNatClampNeg) n r c (2 ^ n)).2 → frH a F I F2 I2 → Φ none S F2 I2 J P) → mhV l K mX1_keepLongest kc ks Φ 32 [some (.ref a), some (.ref b), some (.int (nI ii)), some (.int (nI n)), some (.int (nI r)), some (.int (nI c)), some (.int (nI s)), o7] [] S F I J P := by
  have h2n : 2 ^ n ≤ 256 := Nat.pow_le_pow_right (by decide) hn
  have ep := pw2 n (List.mem_range.mpr (by omega))
  intro m
  induction m with
  | zero =>
    intro s F I o7 hs hH hcl hoff h11 h12 hΦ
    obtain rfl : s = 2 ^ n := by omega
    refine mh_iload_6 dX1_keepLongest_32 (q := 34) rfl ?_
    refine mh_iconst_1 dX1_keepLongest_34 (q := 35) rfl ?_
    refine mh_iload_3 dX1_keepLongest_35 (q := 36) rfl ?_
    refine mh_ishl dX1_keepLongest_36 (q := 37) rfl ?_
    rw [ep]
    refine mh_icmp_ge dX1_keepLongest_37 (tgt := 134) (q := 40) rfl rfl (fun _ => ?_) (fun hh => absurd (nI_le (Nat.le_refl _) (by omega)) hh)
    refine mh_return dX1_keepLongest_134 rfl ?_
    exact hΦ F I h11 h12 frH.rf
  | succ m ih =>
    intro s F I o7 hs hH hcl hoff h11 h12 hΦ
    have hbd := gBd hH.2.1
    have h9 := ih (s + 1)
    have es : (kpF w h kd (fun x => (cl (ii + x)).toNatClampNeg) n r c (s + 1)) = if (kpF w h kd (fun x => (cl (ii + x)).toNatClampNeg) n r c s).1 < kpT w h (ksF kd (fun x => (cl (ii + x)).toNatClampNeg) (nI s) n) r c then (kpT w h (ksF kd (fun x => (cl (ii + x)).toNatClampNeg) (nI s) n) r c, nI s) else (kpF w h kd (fun x => (cl (ii + x)).toNatClampNeg) n r c s) := rfl
    rw [es] at h9
    refine mh_iload_6 dX1_keepLongest_32 (q := 34) rfl ?_
    refine mh_iconst_1 dX1_keepLongest_34 (q := 35) rfl ?_
    refine mh_iload_3 dX1_keepLongest_35 (q := 36) rfl ?_
    refine mh_ishl dX1_keepLongest_36 (q := 37) rfl ?_
    rw [ep]
    refine mh_icmp_ge dX1_keepLongest_37 (tgt := 134) (q := 40) rfl rfl (fun hh => absurd hh (nI_ge (by omega) (by omega))) (fun _ => ?_)
    refine mh_iconst_0 dX1_keepLongest_40 (q := 41) rfl ?_
    refine mh_istore_7 dX1_keepLongest_41 (q := 43) rfl ?_
    refine lp_X1_keepIn (kd := kd) hb hbd2 hr hc hn hin htl n 0 I (Nat.zero_add _) hH hcl (fun x hx hxx => ?_) (fun I2 e1 e2 => ?_)
    · rcases hxx with ⟨y, hy, _⟩ | hxx
      · exact absurd hy (Nat.not_lt_zero y)
      · exact hoff x hx hxx
    have hH2 := hH.frh (F' := F) (I' := I2) ⟨fun _ _ _ => rfl, fun c y e => e1 c y (by omega)⟩
    have hks : ∀ x, x < gSides w h → I2 (a + 7) (nI x) = ksF kd (fun x => (cl (ii + x)).toNatClampNeg) (nI s) n x := fun x hx => e2 x hx (by
      by_cases z : ∃ y, y < n ∧ cl (ii + y) = nI x
      · exact Or.inl z
      · exact Or.inr (fun y hy e => z ⟨y, hy, e⟩))
    refine mh_aload_0 dX1_keepLongest_85 (q := 86) rfl ?_
    refine mh_callV0 ca_X1_keepLongest_86 (shX1_0 hH.1) (q := 89) rfl (by simp [Value.category]) ⟨Nat.zero_le _, Nat.zero_le _⟩ ?_
    refine sp_X1_isTrialFair hH2 hks (fun z I3 g3 g3t => ?_) (fun z I3 g3 g3t => ?_)
    all_goals have h11g : F a 11 = (kpF w h kd (fun x => (cl (ii + x)).toNatClampNeg) n r c s).1 := h11
    · skip
      refine mh_if_eq dX1_keepLongest_89 (tgt := 103) (q := 92) rfl rfl (fun hh => False.elim (by revert hh; decide)) (fun _ => ?_)
      refine mh_aload_0 dX1_keepLongest_92 (q := 93) rfl ?_
      refine mh_iload_4 dX1_keepLongest_93 (q := 95) rfl ?_
      refine mh_iload_5 dX1_keepLongest_95 (q := 97) rfl ?_
      refine mh_callV2 ca_X1_keepLongest_97 (shX1_0 hH.1) (q := 100) rfl (by simp [Value.category]) ⟨Nat.zero_le _, Nat.zero_le _⟩ ?_
      refine sp_X1_ticksOfBlind (hH2.frh g3) (fun k hk => (g3t _).trans (hks k hk)) hr hc ?_
      obtain ⟨T, hT0⟩ : ∃ T, T = blT w h (ksF kd (fun x => (cl (ii + x)).toNatClampNeg) (nI s) n) 200 1 r c := ⟨_, rfl⟩
      have hT : kpT w h (ksF kd (fun x => (cl (ii + x)).toNatClampNeg) (nI s) n) r c = T := by rw [hT0]; exact @if_pos _ (Classical.propDecidable _) z _ _ _
      rw [← hT0]
      refine mh_goto dX1_keepLongest_100 (tgt := 105) rfl ?_
      
      refine mh_istore_7 dX1_keepLongest_105 (q := 107) rfl ?_
      refine mh_iload_7 dX1_keepLongest_107 (q := 109) rfl ?_
      refine mh_aload_0 dX1_keepLongest_109 (q := 110) rfl ?_
      refine mh_getI fl_X1_34 dX1_keepLongest_110 (q := 113) rfl (shX1_0 hH.1) rfl ?_
      refine mh_icmp_le dX1_keepLongest_113 (tgt := 128) (q := 116) rfl rfl (fun c113 => ?_) (fun c113 => ?_)
      · skip
        refine mh_iinc_6 (v := 1) dX1_keepLongest_128 (q := 131) rfl (by decide) ?_
        refine mh_goto dX1_keepLongest_131 (tgt := 32) rfl ?_
        rw [nI_1]
        rw [h11g] at c113
        have hlt : ¬ _ := Int32.not_lt.mpr c113
        rw [← hT] at hlt
        rw [if_neg hlt] at h9
        refine h9 F I3 _ (by omega) (hH2.frh g3) (fun c hc => (g3.2 _ _ (by omega)).trans ((e1 _ _ (by omega)).trans (hcl c hc))) (fun x hx hxx => ?_) h11 h12 (fun F4 I4 q1 q2 q3 => hΦ F4 I4 q1 q2 (frH.tr ⟨fun _ _ _ => rfl, fun c y e => e1 c y (by omega)⟩ (g3.tr q3)))
        rw [g3t]
        exact (hks x hx).trans (ksF_off (fun y hy e => hxx y hy (by
          obtain ⟨t, t1, t2⟩ := htl y hy
          rw [t2, nI_clamp (by omega)] at e
          rw [t2, ← e])))
      · skip
        refine mh_aload_0 dX1_keepLongest_116 (q := 117) rfl ?_
        refine mh_iload_7 dX1_keepLongest_117 (q := 119) rfl ?_
        refine mh_putI (Or.inl fw_X1_34) rfl rfl dX1_keepLongest_119 (q := 122) rfl (shX1_0 hH.1) rfl ?_
        refine mh_aload_0 dX1_keepLongest_122 (q := 123) rfl ?_
        refine mh_iload_6 dX1_keepLongest_123 (q := 125) rfl ?_
        refine mh_putI (Or.inl fw_X1_37) rfl rfl dX1_keepLongest_125 (q := 128) rfl (shX1_0 hH.1) rfl ?_
        refine mh_iinc_6 (v := 1) dX1_keepLongest_128 (q := 131) rfl (by decide) ?_
        refine mh_goto dX1_keepLongest_131 (tgt := 32) rfl ?_
        rw [nI_1]
        rw [h11g] at c113
        have hlt := Int32.not_le.mp c113
        rw [← hT] at hlt
        rw [if_pos hlt] at h9
        have hfg : frH a F I2 (mhUF (mhUF F a 11 T) a 12 (nI s)) I3 := ⟨fun b k e => by repeat rw [mhUF_nk (by omega)], fun c y e => g3.2 c y e⟩
        refine h9 _ I3 _ (by omega) (hH2.frh hfg) (fun c hc => (g3.2 _ _ (by omega)).trans ((e1 _ _ (by omega)).trans (hcl c hc))) (fun x hx hxx => ?_) ((mhUF_nk (by omega)).trans (mhUF_at.trans hT.symm)) mhUF_at (fun F4 I4 q1 q2 q3 => hΦ F4 I4 q1 q2 (frH.tr ⟨fun _ _ _ => rfl, fun c y e => e1 c y (by omega)⟩ (hfg.tr q3)))
        rw [g3t]
        exact (hks x hx).trans (ksF_off (fun y hy e => hxx y hy (by
          obtain ⟨t, t1, t2⟩ := htl y hy
          rw [t2, nI_clamp (by omega)] at e
          rw [t2, ← e])))
    · skip
      refine mh_if_eq dX1_keepLongest_89 (tgt := 103) (q := 92) rfl rfl (fun _ => ?_) (fun hh => False.elim (by revert hh; decide))
      obtain ⟨T, hT0⟩ : ∃ T : Int32, T = -9 := ⟨_, rfl⟩
      have hT : kpT w h (ksF kd (fun x => (cl (ii + x)).toNatClampNeg) (nI s) n) r c = T := by rw [hT0]; exact @if_neg _ (Classical.propDecidable _) z _ _ _
      refine mh_bipush (v := (-9)) dX1_keepLongest_103 (q := 105) rfl (by decide) ?_
      rw [← hT0]
      
      refine mh_istore_7 dX1_keepLongest_105 (q := 107) rfl ?_
      refine mh_iload_7 dX1_keepLongest_107 (q := 109) rfl ?_
      refine mh_aload_0 dX1_keepLongest_109 (q := 110) rfl ?_
      refine mh_getI fl_X1_34 dX1_keepLongest_110 (q := 113) rfl (shX1_0 hH.1) rfl ?_
      refine mh_icmp_le dX1_keepLongest_113 (tgt := 128) (q := 116) rfl rfl (fun c113 => ?_) (fun c113 => ?_)
      · skip
        refine mh_iinc_6 (v := 1) dX1_keepLongest_128 (q := 131) rfl (by decide) ?_
        refine mh_goto dX1_keepLongest_131 (tgt := 32) rfl ?_
        rw [nI_1]
        rw [h11g] at c113
        have hlt : ¬ _ := Int32.not_lt.mpr c113
        rw [← hT] at hlt
        rw [if_neg hlt] at h9
        refine h9 F I3 _ (by omega) (hH2.frh g3) (fun c hc => (g3.2 _ _ (by omega)).trans ((e1 _ _ (by omega)).trans (hcl c hc))) (fun x hx hxx => ?_) h11 h12 (fun F4 I4 q1 q2 q3 => hΦ F4 I4 q1 q2 (frH.tr ⟨fun _ _ _ => rfl, fun c y e => e1 c y (by omega)⟩ (g3.tr q3)))
        rw [g3t]
        exact (hks x hx).trans (ksF_off (fun y hy e => hxx y hy (by
          obtain ⟨t, t1, t2⟩ := htl y hy
          rw [t2, nI_clamp (by omega)] at e
          rw [t2, ← e])))
      · skip
        refine mh_aload_0 dX1_keepLongest_116 (q := 117) rfl ?_
        refine mh_iload_7 dX1_keepLongest_117 (q := 119) rfl ?_
        refine mh_putI (Or.inl fw_X1_34) rfl rfl dX1_keepLongest_119 (q := 122) rfl (shX1_0 hH.1) rfl ?_
        refine mh_aload_0 dX1_keepLongest_122 (q := 123) rfl ?_
        refine mh_iload_6 dX1_keepLongest_123 (q := 125) rfl ?_
        refine mh_putI (Or.inl fw_X1_37) rfl rfl dX1_keepLongest_125 (q := 128) rfl (shX1_0 hH.1) rfl ?_
        refine mh_iinc_6 (v := 1) dX1_keepLongest_128 (q := 131) rfl (by decide) ?_
        refine mh_goto dX1_keepLongest_131 (tgt := 32) rfl ?_
        rw [nI_1]
        rw [h11g] at c113
        have hlt := Int32.not_le.mp c113
        rw [← hT] at hlt
        rw [if_pos hlt] at h9
        have hfg : frH a F I2 (mhUF (mhUF F a 11 T) a 12 (nI s)) I3 := ⟨fun b k e => by repeat rw [mhUF_nk (by omega)], fun c y e => g3.2 c y e⟩
        refine h9 _ I3 _ (by omega) (hH2.frh hfg) (fun c hc => (g3.2 _ _ (by omega)).trans ((e1 _ _ (by omega)).trans (hcl c hc))) (fun x hx hxx => ?_) ((mhUF_nk (by omega)).trans (mhUF_at.trans hT.symm)) mhUF_at (fun F4 I4 q1 q2 q3 => hΦ F4 I4 q1 q2 (frH.tr ⟨fun _ _ _ => rfl, fun c y e => e1 c y (by omega)⟩ (hfg.tr q3)))
        rw [g3t]
        exact (hks x hx).trans (ksF_off (fun y hy e => hxx y hy (by
          obtain ⟨t, t1, t2⟩ := htl y hy
          rw [t2, nI_clamp (by omega)] at e
          rw [t2, ← e])))
set_option maxHeartbeats 4000000 in
set_option maxRecDepth 100000 in
theorem sp_X1_keepLongest {l : Launch} {K : mhX} {Φ : mhQ} {S : List mhS} {F : mhF} {I : mhI} {J : mhJ} {P : mhP} {a b w h n ii r c : Nat} {kd cl : Nat → Int32} (hH : mhHs S F I a w h) (hp : mhPn I a w h kd) (hb : mhKX3 S b) (hbd2 : b + 2 ≤ a) (hr : r < gRooms w h) (hc : c < 3) (hn : n ≤ 8) (hin : ii + n ≤ 60) (hcl : ∀ c, c < 60 → I (b + 1) (nI c) = cl c) (htl : ∀ x, x < n → ∃ t, t < gSides w h ∧ cl (ii + x) = nI t) (hΦ : ∀ (F2 : mhF) (I2 : mhI), F2 a 11 = (kpF w h kd (fun x => (cl (ii + x)).toNatClampNeg) n r c (2 ^ n)).1 → F2 a 12 = (kpF w h kd (fun x => (cl (ii + x)).toNatClampNeg) n r c (2 ^ n)).2 → frH a F I F2 I2 → Φ none S F2 I2 J P) : mhOk l K mX1_keepLongest [.ref a, .ref b, .int (nI ii), .int (nI n), .int (nI r), .int (nI c)] S F I J P Φ := by
  refine mhOk.of (by decide) (by decide) rfl (Nat.le_of_ble_eq_true rfl) ?_
  have hbd := gBd hH.2.1
  refine mh_aload_0 dX1_keepLongest_0 (q := 1) rfl ?_
  refine mh_bipush (v := (-9)) dX1_keepLongest_1 (q := 3) rfl (by decide) ?_
  refine mh_putI (Or.inl fw_X1_34) rfl rfl dX1_keepLongest_3 (q := 6) rfl (shX1_0 hH.1) rfl ?_
  refine mh_aload_0 dX1_keepLongest_6 (q := 7) rfl ?_
  refine mh_bipush (v := (-9)) dX1_keepLongest_7 (q := 9) rfl (by decide) ?_
  refine mh_putI (Or.inl fw_X1_37) rfl rfl dX1_keepLongest_9 (q := 12) rfl (shX1_0 hH.1) rfl ?_
  refine mh_aload_0 dX1_keepLongest_12 (q := 13) rfl ?_
  refine mh_getR fl_X1_9 dX1_keepLongest_13 (q := 16) rfl (shX1_0 hH.1) rfl ?_
  refine mh_iconst_0 dX1_keepLongest_16 (q := 17) rfl ?_
  refine mh_aload_0 dX1_keepLongest_17 (q := 18) rfl ?_
  refine mh_getR fl_X1_43 dX1_keepLongest_18 (q := 21) rfl (shX1_0 hH.1) rfl ?_
  refine mh_iconst_0 dX1_keepLongest_21 (q := 22) rfl ?_
  refine mh_aload_0 dX1_keepLongest_22 (q := 23) rfl ?_
  refine mh_getI fl_X1_68 dX1_keepLongest_23 (q := 26) rfl (shX1_0 hH.1) rfl ?_
  rw [show mhUF (mhUF F a 11 (-9)) a 12 (-9) a 3 = nI (gSides w h) from by (repeat rw [mhUF_nk (by omega)]); exact hH.2.2.2.2.2.1]
  refine mh_copyI dX1_keepLongest_26 wd_arcL_X1_117 wd_arcN wd_arcS wd_arcI (by decide) (by decide) (by simp [Value.category]) (shX1_1 hH.1) (shX1_7 hH.1) (by decide) (by decide) (by decide) (nI_pos (by omega)) (by rw [nI_clamp (by omega)]; show 0 + gSides w h ≤ 43; omega) (by rw [nI_clamp (by omega)]; show 0 + gSides w h ≤ 43; omega) (q := 29) rfl ?_
  refine mh_iconst_0 dX1_keepLongest_29 (q := 30) rfl ?_
  refine mh_istore_6 dX1_keepLongest_30 (q := 32) rfl ?_
  obtain ⟨I1, hI1⟩ : ∃ z, z = mhCp I (a + 1) (0 : Int32).toNatClampNeg (a + 7) (0 : Int32).toNatClampNeg (nI (gSides w h)).toNatClampNeg := ⟨_, rfl⟩
  rw [← hI1]
  rw [show (0 : Int32).toNatClampNeg = 0 from rfl, nI_clamp (by omega)] at hI1
  have hfr : frH a F I (mhUF (mhUF F a 11 (-9)) a 12 (-9)) I1 := ⟨fun b k e => by repeat rw [mhUF_nk (by omega)], fun c y e => by rw [hI1]; exact if_neg (fun z => by omega)⟩
  refine lp_X1_keepLongest (kc := mX1_keepLongest.2.2.2.2.cells) (ks := mX1_keepLongest.2.2.2.2.slots) hb hbd2 hr hc hn hin htl (2 ^ n) 0 _ I1 _ (Nat.zero_add _) (hH.frh hfr) (fun c hc => (hfr.2 _ _ (by omega)).trans (hcl c hc)) (fun x hx _ => ?_) ((mhUF_nk (by omega)).trans mhUF_at) mhUF_at (fun F4 I4 q1 q2 q3 => hΦ F4 I4 q1 q2 (hfr.tr q3))
  rw [hI1, mhCp_at (by omega), if_pos ⟨rfl, Nat.zero_le _, by omega⟩]
  exact (congrArg (I (a + 1)) (congrArg nI (by omega))).trans (hp x hx)
