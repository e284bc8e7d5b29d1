/-! reports: the rooms that fit -/
/-- a report: house, room, p, q, saw -/
abbrev mhRp : Type := Nat → Nat × Nat × Int32 × Int32 × Int32
def mhRC (S : List mhS) (F : mhF) (P : mhP) (nr : Nat) (aR : Nat → Nat) (rp : mhRp) : Prop := nr ≤ 12 ∧ F 0 8 = nI nr ∧ ∀ k, k < nr → P 3 (nI k) = some (aR k) ∧ mhKX2 S (aR k) ∧ 21 ≤ aR k ∧ F (aR k) 0 = nI (rp k).1 ∧ F (aR k) 1 = nI (rp k).2.1 ∧ F (aR k) 2 = (rp k).2.2.1 ∧ F (aR k) 3 = (rp k).2.2.2.1 ∧ F (aR k) 4 = (rp k).2.2.2.2
def mhRR (F : mhF) (I : mhI) (nr : Nat) (rp : mhRp) : Prop := nr ≤ 12 ∧ F 21 20 = nI nr ∧ ∀ k, k < nr → I 32 (nI k) = nI (rp k).1 ∧ I 33 (nI k) = nI (rp k).2.1 ∧ I 34 (nI k) = (rp k).2.2.1 ∧ I 35 (nI k) = (rp k).2.2.2.1 ∧ I 36 (nI k) = (rp k).2.2.2.2
def vRp (nh : Nat) (wd hg : Nat → Nat) (nr : Nat) (rp : mhRp) : Prop := ∀ k, k < nr → (rp k).1 < nh ∧ (rp k).2.1 < gRooms (wd (rp k).1) (hg (rp k).1) ∧ mhTurn (rp k).2.2.1 (rp k).2.2.2.1
noncomputable def spFit (w h : Nat) (kd : Nat → Int32) (r : Nat) (p q saw : Int32) : Int32 := if saw = 0 then ((if sgIm w h kd r p q = -9 then 0 else 1 <<< (sgIm w h kd r p q &&& 31) : Int32) ^^^ (-1 : Int32)) else (if sgIm w h kd r p q = -9 then 0 else 1 <<< (sgIm w h kd r p q &&& 31))
noncomputable def spSt (w h j : Nat) (kd : Nat → Int32) (rp : mhRp) : Nat → Int32
  | 0 => (1 <<< (nI (gRooms w h) &&& 31)) - 1
  | k + 1 => if (rp k).1 = j then spSt w h j kd rp k &&& spFit w h kd (rp k).2.1 (rp k).2.2.1 (rp k).2.2.2.1 (rp k).2.2.2.2 else spSt w h j kd rp k
theorem mhHC.fr {S : List mhS} {F F' : mhF} {I I' : mhI} {P : mhP} {nh : Nat} {wd hg aH : Nat → Nat} (hf : frC F I F' I') (H : mhHC S F I P nh wd hg aH) : mhHC S F' I' P nh wd hg aH := ⟨H.1, H.2.1, (hf.1 0 7 (by omega)).trans H.2.2.1, fun j hj => ⟨(H.2.2.2 j hj).1, (H.2.2.2 j hj).2.fr hf⟩⟩
theorem mhRC.fr {S : List mhS} {F F' : mhF} {I I' : mhI} {P : mhP} {nr : Nat} {aR : Nat → Nat} {rp : mhRp} (hf : frC F I F' I') (H : mhRC S F P nr aR rp) : mhRC S F' P nr aR rp := by
  refine ⟨H.1, (hf.1 0 8 (by omega)).trans H.2.1, fun k hk => ?_⟩
  obtain ⟨h1, h2, h3, h4, h5, h6, h7, h8⟩ := H.2.2 k hk
  exact ⟨h1, h2, h3, (hf.1 _ _ (by omega)).trans h4, (hf.1 _ _ (by omega)).trans h5, (hf.1 _ _ (by omega)).trans h6, (hf.1 _ _ (by omega)).trans h7, (hf.1 _ _ (by omega)).trans h8⟩
theorem mhRR.fr {F F' : mhF} {I I' : mhI} {nr : Nat} {rp : mhRp} (hf : frM F I F' I') (H : mhRR F I nr rp) : mhRR F' I' nr rp := by
  refine ⟨H.1, (hf.1 21 20 (by omega)).trans H.2.1, fun k hk => ?_⟩
  obtain ⟨h1, h2, h3, h4, h5⟩ := H.2.2 k hk
  exact ⟨(hf.2 _ _ (by decide) (by decide) (by decide)).trans h1, (hf.2 _ _ (by decide) (by decide) (by decide)).trans h2, (hf.2 _ _ (by decide) (by decide) (by decide)).trans h3, (hf.2 _ _ (by decide) (by decide) (by decide)).trans h4, (hf.2 _ _ (by decide) (by decide) (by decide)).trans h5⟩
set_option maxHeartbeats 4000000 in
set_option maxRecDepth 100000 in
theorem sp_X6_fits {l : Launch} {K : mhX} {Φ : mhQ} {S : List mhS} {F : mhF} {I : mhI} {J : mhJ} {P : mhP} (h6 : mhKX6 S) (h4 : mhKX4 S) {w h a b : Nat} {kd : Nat → Int32} {p q saw : Int32} {r : Nat} (hH : mhHs S F I a w h) (hp : mhPn I a w h kd) (hb2 : mhKX2 S b) (hb52 : 21 ≤ b) (hr : r < gRooms w h) (hb : sgBd p q) (e1 : F b 1 = nI r) (e2 : F b 2 = p) (e3 : F b 3 = q) (e4 : F b 4 = saw) (hΦ : ∀ (F2 : mhF) (I2 : mhI), frC F I F2 I2 → Φ (some (.int (spFit w h kd r p q saw))) S F2 I2 J P) : mhOk l K mX6_fits [.ref 0, .ref a, .ref b] S F I J P Φ := by
  refine mhOk.of (by decide) (by decide) rfl (Nat.le_of_ble_eq_true rfl) ?_
  refine mh_aload_0 dX6_fits_0 (q := 1) rfl ?_
  refine mh_getR fl_X6_42 dX6_fits_1 (q := 4) rfl (shX6_0 h6) rfl ?_
  refine mh_aload_1 dX6_fits_4 (q := 5) rfl ?_
  refine mh_aload_2 dX6_fits_5 (q := 6) rfl ?_
  refine mh_getI fl_X6_224 dX6_fits_6 (q := 9) rfl (shX2_0 hb2) rfl ?_
  rw [e1]
  refine mh_aload_2 dX6_fits_9 (q := 10) rfl ?_
  refine mh_getI fl_X6_225 dX6_fits_10 (q := 13) rfl (shX2_0 hb2) rfl ?_
  rw [e2]
  refine mh_aload_2 dX6_fits_13 (q := 14) rfl ?_
  refine mh_getI fl_X6_228 dX6_fits_14 (q := 17) rfl (shX2_0 hb2) rfl ?_
  rw [e3]
  refine mh_callV4 ca_X6_fits_17 (shX4_0 h4) (q := 20) rfl (by simp [Value.category]) ⟨Nat.zero_le _, Nat.zero_le _⟩ ?_
  refine sp_X4_imageBy h4 hH hp hr hb (fun F2 I2 u2 => ?_)
  refine mh_istore_3 dX6_fits_20 (q := 21) rfl ?_
  refine mh_iload_3 dX6_fits_21 (q := 22) rfl ?_
  refine mh_bipush (v := (-9)) dX6_fits_22 (q := 24) rfl (by decide) ?_
  refine mh_icmp_ne dX6_fits_24 (tgt := 31) (q := 27) rfl rfl (fun c24 => ?_) (fun c24 => ?_)
  · skip
    refine mh_iconst_1 dX6_fits_31 (q := 32) rfl ?_
    refine mh_iload_3 dX6_fits_32 (q := 33) rfl ?_
    refine mh_ishl dX6_fits_33 (q := 34) rfl ?_
    refine mh_istore_4 dX6_fits_34 (q := 36) rfl ?_
    refine mh_aload_2 dX6_fits_36 (q := 37) rfl ?_
    refine mh_getI fl_X6_231 dX6_fits_37 (q := 40) rfl (shX2_0 hb2) rfl ?_
    rw [show F2 b 4 = saw from (u2.1 b 4 (by omega)).trans e4]
    refine mh_if_eq dX6_fits_40 (tgt := 48) (q := 43) rfl rfl (fun c40 => ?_) (fun c40 => ?_)
    · skip
      refine mh_iload_4 dX6_fits_48 (q := 50) rfl ?_
      refine mh_iconst_m1 dX6_fits_50 (q := 51) rfl ?_
      refine mh_ixor dX6_fits_51 (q := 52) rfl ?_
      refine mh_ireturn dX6_fits_52 rfl rfl ?_
      exact mh_cl (hΦ F2 I2 u2) (by unfold spFit; first | rw [if_pos c40, if_pos c24] | rw [if_pos c40, if_neg c24] | rw [if_neg c40, if_pos c24] | rw [if_neg c40, if_neg c24])
    · skip
      refine mh_iload_4 dX6_fits_43 (q := 45) rfl ?_
      refine mh_goto dX6_fits_45 (tgt := 52) rfl ?_
      refine mh_ireturn dX6_fits_52 rfl rfl ?_
      exact mh_cl (hΦ F2 I2 u2) (by unfold spFit; first | rw [if_pos c40, if_pos c24] | rw [if_pos c40, if_neg c24] | rw [if_neg c40, if_pos c24] | rw [if_neg c40, if_neg c24])
  · skip
    refine mh_iconst_0 dX6_fits_27 (q := 28) rfl ?_
    refine mh_goto dX6_fits_28 (tgt := 34) rfl ?_
    refine mh_istore_4 dX6_fits_34 (q := 36) rfl ?_
    refine mh_aload_2 dX6_fits_36 (q := 37) rfl ?_
    refine mh_getI fl_X6_231 dX6_fits_37 (q := 40) rfl (shX2_0 hb2) rfl ?_
    rw [show F2 b 4 = saw from (u2.1 b 4 (by omega)).trans e4]
    refine mh_if_eq dX6_fits_40 (tgt := 48) (q := 43) rfl rfl (fun c40 => ?_) (fun c40 => ?_)
    · skip
      refine mh_iload_4 dX6_fits_48 (q := 50) rfl ?_
      refine mh_iconst_m1 dX6_fits_50 (q := 51) rfl ?_
      refine mh_ixor dX6_fits_51 (q := 52) rfl ?_
      refine mh_ireturn dX6_fits_52 rfl rfl ?_
      exact mh_cl (hΦ F2 I2 u2) (by unfold spFit; first | rw [if_pos c40, if_pos c24] | rw [if_pos c40, if_neg c24] | rw [if_neg c40, if_pos c24] | rw [if_neg c40, if_neg c24])
    · skip
      refine mh_iload_4 dX6_fits_43 (q := 45) rfl ?_
      refine mh_goto dX6_fits_45 (tgt := 52) rfl ?_
      refine mh_ireturn dX6_fits_52 rfl rfl ?_
      exact mh_cl (hΦ F2 I2 u2) (by unfold spFit; first | rw [if_pos c40, if_pos c24] | rw [if_pos c40, if_neg c24] | rw [if_neg c40, if_pos c24] | rw [if_neg c40, if_neg c24])
theorem DD {p : Prop} (h : p) : p := h
set_option maxHeartbeats 4000000 in
set_option maxRecDepth 100000 in
theorem lp_X6_spots {l : Launch} {K : mhX} {kc ks : Nat} {Φ : mhQ} {S : List mhS} {J : mhJ} {P : mhP} (h4 : mhKX4 S) {nh nr j : Nat} {wd hg aH aR : Nat → Nat} {kd : Nat → Nat → Int32} {rp : mhRp} (hj : j < nh) (hv : vRp nh wd hg nr rp) : ∀ (m k : Nat) (F : mhF) (I : mhI) (o5 : Option Value), k + m = nr → mhHC S F I P nh wd hg aH → (∀ j, j < nh → mhPn I (aH j) (wd j) (hg j) (kd j)) → mhRC S F P nr aR rp → (∀ (F2 : mhF) (I2 : mhI), frC F I F2 I2 → Φ (some (.int (spSt (wd j) (hg j) j (kd j) rp nr))) S F2 I2 J P) → mhV l K mX6_spots kc ks Φ 20 [some (.ref 0), some (.int (nI j)), some (.ref (aH j)), some (.int (spSt (wd j) (hg j) j (kd j) rp k)), some (.int (nI k)), o5] [] S F I J P := by
  intro m
  induction m with
  | zero =>
    intro k F I o5 hk hC hK hR hΦ
    obtain rfl : k = nr := by omega
    have hn := hR.1
    refine mh_iload_4 dX6_spots_20 (q := 22) rfl ?_
    refine mh_aload_0 dX6_spots_22 (q := 23) rfl ?_
    refine mh_getI fl_X6_208 dX6_spots_23 (q := 26) rfl (shX6_0 hC.1) rfl ?_
    rw [hR.2.1]
    refine mh_icmp_ge dX6_spots_26 (tgt := 78) (q := 29) rfl rfl (fun _ => ?_) (fun hh => absurd (nI_le (Nat.le_refl _) (by omega)) hh)
    refine mh_iload_3 dX6_spots_78 (q := 79) rfl ?_
    refine mh_ireturn dX6_spots_79 rfl rfl ?_
    exact hΦ F I frC.rf
  | succ m ih =>
    intro k F I o5 hk hC hK hR hΦ
    have hn := hR.1
    have h9 := ih (k + 1)
    obtain ⟨r1, r2, r3, r4, r5, r6, r7, r8⟩ := hR.2.2 k (by omega)
    have hvk := hv k (by omega)
    have hj3 := hC.2.1
    refine mh_iload_4 dX6_spots_20 (q := 22) rfl ?_
    refine mh_aload_0 dX6_spots_22 (q := 23) rfl ?_
    refine mh_getI fl_X6_208 dX6_spots_23 (q := 26) rfl (shX6_0 hC.1) rfl ?_
    rw [hR.2.1]
    refine mh_icmp_ge dX6_spots_26 (tgt := 78) (q := 29) rfl rfl (fun hh => absurd hh (nI_ge (by omega) (by omega))) (fun _ => ?_)
    refine mh_iload_4 dX6_spots_29 (q := 31) rfl ?_
    refine mh_aload_0 dX6_spots_31 (q := 32) rfl ?_
    refine mh_getR fl_X6_25 dX6_spots_32 (q := 35) rfl (shX6_0 hC.1) rfl ?_
    refine mh_alen (v := 12) dX6_spots_35 (q := 36) rfl (shX6_3 hC.1) (by decide) rfl ?_
    refine mh_icmp_ge dX6_spots_36 (tgt := 78) (q := 39) rfl rfl (fun hh => absurd hh (show ¬ (12 : Int32) ≤ nI k from nI_ge (b := 12) (by omega) (by decide))) (fun _ => ?_)
    refine mh_aload_0 dX6_spots_39 (q := 40) rfl ?_
    refine mh_getR fl_X6_25 dX6_spots_40 (q := 43) rfl (shX6_0 hC.1) rfl ?_
    refine mh_iload_4 dX6_spots_43 (q := 45) rfl ?_
    refine mh_aald dX6_spots_45 (q := 46) rfl (Or.inr (Or.inr (Or.inl ⟨rfl, rfl⟩))) (shX6_3 hC.1) (vp_in_nI (by omega) (by decide)) r1 ?_
    refine mh_astore_5 dX6_spots_46 (q := 48) rfl ?_
    refine mh_aload_5 dX6_spots_48 (q := 50) rfl ?_
    refine mh_ifnullR dX6_spots_50 (q := 53) rfl ?_
    refine mh_aload_5 dX6_spots_53 (q := 55) rfl ?_
    refine mh_getI fl_X6_217 dX6_spots_55 (q := 58) rfl (shX2_0 r2) rfl ?_
    rw [r4]
    refine mh_iload_1 dX6_spots_58 (q := 59) rfl ?_
    refine mh_icmp_ne dX6_spots_59 (tgt := 72) (q := 62) rfl rfl (fun c59 => ?_) (fun c59 => ?_)
    · skip
      rw [nI_eq (by omega) (by omega)] at c59
      refine mh_iinc_4 (v := 1) dX6_spots_72 (q := 75) rfl (by decide) ?_
      refine mh_goto dX6_spots_75 (tgt := 20) rfl ?_
      rw [nI_1]
      first
      | (have es : (spSt (wd j) (hg j) j (kd j) rp (k + 1)) = (spSt (wd j) (hg j) j (kd j) rp k) := if_neg c59
         rw [es] at h9
         exact h9 F I _ (by omega) hC hK hR hΦ)
      | (have es : (spSt (wd j) (hg j) j (kd j) rp (k + 1)) = (spSt (wd j) (hg j) j (kd j) rp k) &&& _ := if_pos (DD c59)
         rw [es] at h9
         exact h9 F2 I2 _ (by omega) (hC.fr u2) (fun i hi => (hK i hi).fr u2 (hC.2.2.2 i hi).2.2.2.2.2.2.2.2.2.2.2) (hR.fr u2) (fun F3 I3 t2 => hΦ F3 I3 (u2.tr t2)))
    · skip
      rw [nI_eq (by omega) (by omega)] at c59
      refine mh_iload_3 dX6_spots_62 (q := 63) rfl ?_
      refine mh_aload_0 dX6_spots_63 (q := 64) rfl ?_
      refine mh_aload_2 dX6_spots_64 (q := 65) rfl ?_
      refine mh_aload_5 dX6_spots_65 (q := 67) rfl ?_
      refine mh_callV2 ca_X6_spots_67 (shX6_0 hC.1) (q := 70) rfl (by simp [Value.category]) ⟨Nat.zero_le _, Nat.zero_le _⟩ ?_
      refine sp_X6_fits hC.1 h4 (hC.2.2.2 j hj).2 (hK j hj) r2 r3 (r := (rp k).2.1) (by have := hvk.2.1; rw [DD c59] at this; exact this) hvk.2.2.bd r5 r6 r7 r8 (fun F2 I2 u2 => ?_)
      refine mh_iand dX6_spots_70 (q := 71) rfl ?_
      refine mh_istore_3 dX6_spots_71 (q := 72) rfl ?_
      refine mh_iinc_4 (v := 1) dX6_spots_72 (q := 75) rfl (by decide) ?_
      refine mh_goto dX6_spots_75 (tgt := 20) rfl ?_
      rw [nI_1]
      first
      | (have es : (spSt (wd j) (hg j) j (kd j) rp (k + 1)) = (spSt (wd j) (hg j) j (kd j) rp k) := if_neg c59
         rw [es] at h9
         exact h9 F I _ (by omega) hC hK hR hΦ)
      | (have es : (spSt (wd j) (hg j) j (kd j) rp (k + 1)) = (spSt (wd j) (hg j) j (kd j) rp k) &&& _ := if_pos (DD c59)
         rw [es] at h9
         exact h9 F2 I2 _ (by omega) (hC.fr u2) (fun i hi => (hK i hi).fr u2 (hC.2.2.2 i hi).2.2.2.2.2.2.2.2.2.2.2) (hR.fr u2) (fun F3 I3 t2 => hΦ F3 I3 (u2.tr t2)))
set_option maxHeartbeats 4000000 in
set_option maxRecDepth 100000 in
theorem sp_X6_spots {l : Launch} {K : mhX} {Φ : mhQ} {S : List mhS} {F : mhF} {I : mhI} {J : mhJ} {P : mhP} (h4 : mhKX4 S) {nh : Nat} {wd hg aH : Nat → Nat} (hC : mhHC S F I P nh wd hg aH) {kd : Nat → Nat → Int32} (hK : ∀ j, j < nh → mhPn I (aH j) (wd j) (hg j) (kd j)) {nr : Nat} {aR : Nat → Nat} {rp : mhRp} (hR : mhRC S F P nr aR rp) (hv : vRp nh wd hg nr rp) {x : Int32} (hn : ¬ vHs nh x → Φ (some (.int (-1))) S F I J P) (ht : ∀ j, j < nh → x = nI j → ∀ (F2 : mhF) (I2 : mhI), frC F I F2 I2 → Φ (some (.int (spSt (wd j) (hg j) j (kd j) rp nr))) S F2 I2 J P) : mhOk l K mX6_spots [.ref 0, .int x] S F I J P Φ := by
  refine mhOk.of (by decide) (by decide) rfl (Nat.le_of_ble_eq_true rfl) ?_
  refine mh_aload_0 dX6_spots_0 (q := 1) rfl ?_
  refine mh_iload_1 dX6_spots_1 (q := 2) rfl ?_
  refine mh_callV1 ca_X6_spots_2 (shX6_0 hC.1) (q := 5) rfl (by simp [Value.category]) ⟨Nat.zero_le _, Nat.zero_le _⟩ ?_
  refine sp_X6_houseAt hC (fun hk => ?_) (fun j hj ej => ?_)
  · skip
    refine mh_astoreN_2 dX6_spots_5 (q := 6) rfl ?_
    refine mh_aloadN_2 dX6_spots_6 (q := 7) rfl ?_
    refine mh_ifnonnullN dX6_spots_7 (q := 10) rfl ?_
    refine mh_iconst_m1 dX6_spots_10 (q := 11) rfl ?_
    refine mh_ireturn dX6_spots_11 rfl rfl ?_
    exact hn hk
  · skip
    subst ej
    refine mh_astore_2 dX6_spots_5 (q := 6) rfl ?_
    refine mh_aload_2 dX6_spots_6 (q := 7) rfl ?_
    refine mh_ifnonnullR dX6_spots_7 (tgt := 12) rfl ?_
    refine mh_aload_2 dX6_spots_12 (q := 13) rfl ?_
    refine mh_callV0 ca_X6_spots_13 (shX1_0 (hC.2.2.2 j hj).2.1) (q := 16) rfl (by simp [Value.category]) ⟨Nat.zero_le _, Nat.zero_le _⟩ ?_
    refine sp_X1_allRooms (hC.2.2.2 j hj).2 ?_
    refine mh_istore_3 dX6_spots_16 (q := 17) rfl ?_
    refine mh_iconst_0 dX6_spots_17 (q := 18) rfl ?_
    refine mh_istore_4 dX6_spots_18 (q := 20) rfl ?_
    exact lp_X6_spots (kc := mX6_spots.2.2.2.2.cells) (ks := mX6_spots.2.2.2.2.slots) h4 hj hv nr 0 F I _ (Nat.zero_add _) hC hK hR (fun F2 I2 u2 => ht j hj rfl F2 I2 u2)
