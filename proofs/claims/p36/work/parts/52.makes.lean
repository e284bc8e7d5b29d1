/-! makings: reports, walkers -/
theorem nfL {L : List mhS} {x : mhS} {M : List mhS} {b n : Nat} (hb : L.length = b) (hn : M.length = n) : (L ++ x :: M).length = b + (n + 1) := by rw [List.length_append, List.length_cons, hb, hn]
theorem nfA {L M M' : List mhS} {x t : mhS} (h : M ++ [t] = M') : (L ++ x :: M) ++ [t] = L ++ x :: M' := by rw [List.append_assoc, List.cons_append, h]
theorem nfG {L M : List mhS} {x : mhS} {b : Nat} (hb : L.length = b) : (L ++ x :: M)[b]? = some x := by rw [List.getElem?_append_right (by omega), show b - L.length = 0 by omega]; rfl
theorem nfI {L M : List mhS} {x : mhS} {b i : Nat} (hb : L.length = b) : (L ++ x :: M)[b + (i + 1)]? = M[i]? := by rw [List.getElem?_append_right (by omega), show b + (i + 1) - L.length = i + 1 by omega]; rfl
theorem nfS {L M : List mhS} {x y y' : mhS} {b : Nat} (hb : L.length = b) (hy : y = y') : (L ++ x :: M).set b y = L ++ y' :: M := by rw [List.set_append_right _ _ (by omega), show b - L.length = 0 by omega, hy]; rfl
theorem nfO {L M : List mhS} {b i : Nat} (hb : L.length = b) (hi : i < b) : (L ++ M)[i]? = L[i]? := List.getElem?_append_left (by omega)
/-- shapes that stay, as more are made -/
def exS (S S2 : List mhS) : Prop := ∀ (i : Nat) (s : mhS), S[i]? = some s → S2[i]? = some s
theorem exS.app {S T : List mhS} : exS S (S ++ T) := fun i s h => by
  have : i < S.length := (List.getElem?_eq_some_iff.mp h).1
  rw [List.getElem?_append_left this]; exact h
theorem exS.of {L S2 : List mhS} (h : ∀ i, i < L.length → S2[i]? = L[i]?) : exS L S2 := fun i s e => by
  have : i < L.length := (List.getElem?_eq_some_iff.mp e).1
  rw [h i this]; exact e
theorem exS.lt {S : List mhS} {i : Nat} {s : mhS} (h : S[i]? = some s) : i < S.length := (List.getElem?_eq_some_iff.mp h).1
theorem mhKX0.ex {S S2 : List mhS} (h : exS S S2) (H : mhKX0 S) : mhKX0 S2 := ⟨h _ _ (shX0_0 H), h _ _ (shX0_1 H), h _ _ (shX0_2 H)⟩
theorem mhKX1.ex {S S2 : List mhS} {a : Nat} (h : exS S S2) (H : mhKX1 S a) : mhKX1 S2 a := ⟨h _ _ (shX1_0 H), h _ _ (shX1_1 H), h _ _ (shX1_2 H), h _ _ (shX1_3 H), h _ _ (shX1_4 H), h _ _ (shX1_5 H), h _ _ (shX1_6 H), h _ _ (shX1_7 H), h _ _ (shX1_8 H), h _ _ (shX1_9 H), h _ _ (shX1_10 H)⟩
theorem mhKX2.ex {S S2 : List mhS} {a : Nat} (h : exS S S2) (H : mhKX2 S a) : mhKX2 S2 a := h _ _ (shX2_0 H)
theorem mhKX3.ex {S S2 : List mhS} {a : Nat} (h : exS S S2) (H : mhKX3 S a) : mhKX3 S2 a := ⟨h _ _ (shX3_0 H), h _ _ (shX3_1 H)⟩
theorem mhKX4.ex {S S2 : List mhS} (h : exS S S2) (H : mhKX4 S) : mhKX4 S2 := ⟨h _ _ (shX4_0 H), h _ _ (shX4_1 H), h _ _ (shX4_2 H), h _ _ (shX4_3 H)⟩
theorem mhKX6.ex {S S2 : List mhS} (h : exS S S2) (H : mhKX6 S) : mhKX6 S2 := ⟨h _ _ (shX6_0 H), h _ _ (shX6_1 H), h _ _ (shX6_2 H), h _ _ (shX6_3 H), h _ _ (shX6_4 H), h _ _ (shX6_5 H)⟩
/-- all below n as it was -/
def frB (n : Nat) (F : mhF) (I : mhI) (F' : mhF) (I' : mhI) : Prop := (∀ b k, b < n → F' b k = F b k) ∧ ∀ b y, b < n → I' b y = I b y
theorem mhHs.ex {S S2 : List mhS} {F F2 : mhF} {I I2 : mhI} {a w h : Nat} (hs : exS S S2) (hf : frB S.length F I F2 I2) (H : mhHs S F I a w h) : mhHs S2 F2 I2 a w h := by
  have l10 := exS.lt (shX1_10 H.1)
  obtain ⟨h1, h2, h3, h4, h5, h6, h7, h8, h9, h10, h11⟩ := H
  exact ⟨h1.ex hs, h2, (hf.1 _ _ (by omega)).trans h3, (hf.1 _ _ (by omega)).trans h4, (hf.1 _ _ (by omega)).trans h5, (hf.1 _ _ (by omega)).trans h6, fun b hb j => (hf.2 _ j (by omega)).trans (h7 b hb j), (hf.2 _ _ (by omega)).trans h8, (hf.2 _ _ (by omega)).trans h9, (hf.2 _ _ (by omega)).trans h10, h11⟩
set_option maxHeartbeats 4000000 in
set_option maxRecDepth 100000 in
theorem sp_X2_init {l : Launch} {K : mhX} {Φ : mhQ} {S : List mhS} {F : mhF} {I : mhI} {J : mhJ} {P : mhP} {b : Nat} (hb : mhKX2 S b) {x0 x1 x2 x3 x4 : Int32} (hz : x4 = 0 ∨ x4 = 1) (hΦ : Φ none S (mhUF (mhUF (mhUF (mhUF (mhUF F b 0 x0) b 1 x1) b 2 x2) b 3 x3) b 4 x4) I J P) : mhOk l K mX2_init [.ref b, .int x0, .int x1, .int x2, .int x3, .int x4] S F I J P Φ := by
  refine mhOk.of (by decide) (by decide) rfl (Nat.le_of_ble_eq_true rfl) ?_
  refine mh_aload_0 dX2_init_0 (q := 1) rfl ?_
  refine mh_objInit dX2_init_1 wd_372 wd_objI wd_objC (by decide) (by decide) (by simp [Value.category]) (q := 4) rfl ?_
  refine mh_aload_0 dX2_init_4 (q := 5) rfl ?_
  refine mh_iload_1 dX2_init_5 (q := 6) rfl ?_
  refine mh_putI (Or.inr ⟨fw_X2_7, rfl⟩) rfl rfl dX2_init_6 (q := 9) rfl (shX2_0 hb) rfl ?_
  refine mh_aload_0 dX2_init_9 (q := 10) rfl ?_
  refine mh_iload_2 dX2_init_10 (q := 11) rfl ?_
  refine mh_putI (Or.inr ⟨fw_X2_13, rfl⟩) rfl rfl dX2_init_11 (q := 14) rfl (shX2_0 hb) rfl ?_
  refine mh_aload_0 dX2_init_14 (q := 15) rfl ?_
  refine mh_iload_3 dX2_init_15 (q := 16) rfl ?_
  refine mh_putI (Or.inr ⟨fw_X2_16, rfl⟩) rfl rfl dX2_init_16 (q := 19) rfl (shX2_0 hb) rfl ?_
  refine mh_aload_0 dX2_init_19 (q := 20) rfl ?_
  refine mh_iload_4 dX2_init_20 (q := 22) rfl ?_
  refine mh_putI (Or.inr ⟨fw_X2_19, rfl⟩) rfl rfl dX2_init_22 (q := 25) rfl (shX2_0 hb) rfl ?_
  refine mh_aload_0 dX2_init_25 (q := 26) rfl ?_
  refine mh_iload_5 dX2_init_26 (q := 28) rfl ?_
  refine mh_putI (Or.inr ⟨fw_X2_22, rfl⟩) (by rcases hz with rfl | rfl <;> rfl) (by rcases hz with rfl | rfl <;> rfl) dX2_init_28 (q := 31) rfl (shX2_0 hb) rfl ?_
  refine mh_return dX2_init_31 rfl ?_
  exact hΦ
theorem mhHC.ex {S S2 : List mhS} {F F2 : mhF} {I I2 : mhI} {P : mhP} {nh : Nat} {wd hg aH : Nat → Nat} (hs : exS S S2) (hf : frB S.length F I F2 I2) (H : mhHC S F I P nh wd hg aH) : mhHC S2 F2 I2 P nh wd hg aH := ⟨H.1.ex hs, H.2.1, (hf.1 0 7 (by have := exS.lt (shX6_0 H.1); omega)).trans H.2.2.1, fun j hj => ⟨(H.2.2.2 j hj).1, (H.2.2.2 j hj).2.ex hs hf⟩⟩
set_option maxHeartbeats 4000000 in
set_option maxRecDepth 100000 in
theorem sp_X6_report {l : Launch} {K : mhX} {Φ : mhQ} {S : List mhS} {F : mhF} {I : mhI} {J : mhJ} {P : mhP} {nh : Nat} {wd hg aH : Nat → Nat} (hC : mhHC S F I P nh wd hg aH) {nr : Nat} (hn12 : nr ≤ 12) (hF8 : F 0 8 = nI nr) {x y p q saw : Int32} (hz : saw = 0 ∨ saw = 1) (hn : ¬ vHR nh wd hg x y → Φ (some (.int (-1))) S F I J P) (hb : vHR nh wd hg x y → ¬ mhTurn p q → Φ (some (.int (-2))) S F I J P) (hf : vHR nh wd hg x y → mhTurn p q → nr = 12 → Φ (some (.int (-4))) S F I J P) (ht : ∀ j r, j < nh → r < gRooms (wd j) (hg j) → x = nI j → y = nI r → mhTurn p q → nr < 12 → ∀ (S2 : List mhS) (F2 : mhF), S2 = S ++ [.inr (2, mhRX2 S.length)] → (∀ c k, c < S.length → ¬ (c = 0 ∧ k = 8) → F2 c k = F c k) → F2 0 8 = nI (nr + 1) → F2 S.length 0 = x → F2 S.length 1 = y → F2 S.length 2 = p → F2 S.length 3 = q → F2 S.length 4 = saw → Φ (some (.int (nI nr))) S2 F2 I J (mhUP P 3 (nI nr) (some S.length))) : mhOk l K mX6_report [.ref 0, .int x, .int y, .int p, .int q, .int saw] S F I J P Φ := by
  refine mhOk.of (by decide) (by decide) rfl (Nat.le_of_ble_eq_true rfl) ?_
  refine mh_aload_0 dX6_report_0 (q := 1) rfl ?_
  refine mh_iload_1 dX6_report_1 (q := 2) rfl ?_
  refine mh_callV1 ca_X6_report_2 (shX6_0 hC.1) (q := 5) rfl (by simp [Value.category]) ⟨Nat.zero_le _, Nat.zero_le _⟩ ?_
  refine sp_X6_houseAt hC (fun hk => ?_) (fun j hj ej => ?_)
  · skip
    refine mh_astoreN_6 dX6_report_5 (q := 7) rfl ?_
    refine mh_aloadN_6 dX6_report_7 (q := 9) rfl ?_
    refine mh_ifnullN dX6_report_9 (tgt := 21) rfl ?_
    refine mh_iconst_m1 dX6_report_21 (q := 22) rfl ?_
    refine mh_ireturn dX6_report_22 rfl rfl ?_
    exact hn (fun ⟨i, hi, e, e1⟩ => by first | exact hk ⟨i, hi, e⟩ | (have e4 : j = i := (nI_eq (by have := hC.2.1; omega) (by have := hC.2.1; omega)).mp e; subst e4; exact hk e1))
  · skip
    subst ej
    refine mh_astore_6 dX6_report_5 (q := 7) rfl ?_
    refine mh_aload_6 dX6_report_7 (q := 9) rfl ?_
    refine mh_ifnullR dX6_report_9 (q := 12) rfl ?_
    refine mh_aload_6 dX6_report_12 (q := 14) rfl ?_
    refine mh_iload_2 dX6_report_14 (q := 15) rfl ?_
    refine mh_callV1 ca_X6_report_15 (shX1_0 (hC.2.2.2 j hj).2.1) (q := 18) rfl (by simp [Value.category]) ⟨Nat.zero_le _, Nat.zero_le _⟩ ?_
    refine sp_X1_hasRoom (hC.2.2.2 j hj).2 (fun r hr er => ?_) (fun hk => ?_)
    · skip
      subst er
      refine mh_if_ne dX6_report_18 (tgt := 23) (q := 21) rfl rfl (fun _ => ?_) (fun hh => False.elim (by revert hh; decide))
      refine mh_iload_3 dX6_report_23 (q := 24) rfl ?_
      refine mh_iload_4 dX6_report_24 (q := 26) rfl ?_
      refine mh_callS2 ca_X6_report_26 (q := 29) rfl (by simp [Value.category]) ⟨Nat.zero_le _, Nat.zero_le _⟩ ?_
      refine sp_X6_isTurn (fun ct => ?_) (fun ct => ?_)
      · skip
        refine mh_if_ne dX6_report_29 (tgt := 35) (q := 32) rfl rfl (fun _ => ?_) (fun hh => False.elim (by revert hh; decide))
        refine mh_aload_0 dX6_report_35 (q := 36) rfl ?_
        refine mh_getI fl_X6_208 dX6_report_36 (q := 39) rfl (shX6_0 hC.1) rfl ?_
        rw [hF8]
        refine mh_aload_0 dX6_report_39 (q := 40) rfl ?_
        refine mh_getR fl_X6_25 dX6_report_40 (q := 43) rfl (shX6_0 hC.1) rfl ?_
        refine mh_alen (v := 12) dX6_report_43 (q := 44) rfl (shX6_3 hC.1) (by decide) rfl ?_
        refine mh_icmp_lt dX6_report_44 (tgt := 50) (q := 47) rfl rfl (fun c44 => ?_) (fun c44 => ?_)
        · skip
          rw [show (12 : Int32) = nI 12 from rfl, nI_ltI (by omega) (by decide)] at c44
          refine mh_aload_0 dX6_report_50 (q := 51) rfl ?_
          refine mh_getR fl_X6_25 dX6_report_51 (q := 54) rfl (shX6_0 hC.1) rfl ?_
          refine mh_aload_0 dX6_report_54 (q := 55) rfl ?_
          refine mh_getI fl_X6_208 dX6_report_55 (q := 58) rfl (shX6_0 hC.1) rfl ?_
          rw [hF8]
          refine mh_new (ci := 2) (T := TX2) (N := 5) (ty0 := tyX2) (rs := [none, none, none, none, none]) dX6_report_58 wd_34 wd_368 wd_21 rfl inX2 tyX2_ok (fun j hj => by rcases (show j = 0 ∨ j = 1 ∨ j = 2 ∨ j = 3 ∨ j = 4 by omega) with rfl | rfl | rfl | rfl | rfl <;> first | exact Or.inl ⟨rfl, rfl⟩ | exact Or.inr ⟨rfl, rfl⟩) (q := 61) rfl (by decide) ?_
          obtain ⟨S2, hS2⟩ : ∃ z, z = S ++ [.inr (2, [none, none, none, none, none])] := ⟨_, rfl⟩
          rw [← hS2]
          have l0 := exS.lt (shX6_0 hC.1)
          have hex : exS S S2 := by rw [hS2]; exact exS.app
          have hb2 : mhKX2 S2 S.length := by rw [hS2]; exact nfG (M := []) rfl
          have h62 := hC.1.ex hex
          refine mh_dupr dX6_report_61 (q := 62) rfl ?_
          refine mh_iload_1 dX6_report_62 (q := 63) rfl ?_
          refine mh_iload_2 dX6_report_63 (q := 64) rfl ?_
          refine mh_iload_3 dX6_report_64 (q := 65) rfl ?_
          refine mh_iload_4 dX6_report_65 (q := 67) rfl ?_
          refine mh_iload_5 dX6_report_67 (q := 69) rfl ?_
          refine mh_callI5 ca_X6_report_69 (q := 72) rfl (by simp [Value.category]) ⟨Nat.zero_le _, Nat.zero_le _⟩ ?_
          refine sp_X2_init hb2 hz ?_
          obtain ⟨F2, hF2⟩ : ∃ z, z = mhUF (mhUF (mhUF (mhUF (mhUF (mhZF F S.length) S.length 0 (nI j)) S.length 1 (nI r)) S.length 2 p) S.length 3 q) S.length 4 saw := ⟨_, rfl⟩
          rw [← hF2]
          have fo : ∀ c k, c < S.length → F2 c k = F c k := fun c k hc => by
            rw [hF2]
            (repeat rw [mhUF_ne (by omega)])
            exact if_neg (by omega)
          have f8 : F2 0 8 = nI nr := (fo 0 8 l0).trans hF8
          refine mh_aast (ci := 2) dX6_report_72 (q := 73) rfl rfl (Or.inr (Or.inr (Or.inl ⟨rfl, rfl⟩))) (shX6_3 h62) (by decide) (vp_in_nI (by omega) (by decide)) (shX2_0 hb2) ?_
          refine mh_aload_0 dX6_report_73 (q := 74) rfl ?_
          refine mh_dupr dX6_report_74 (q := 75) rfl ?_
          refine mh_getI fl_X6_208 dX6_report_75 (q := 78) rfl (shX6_0 h62) rfl ?_
          rw [f8]
          refine mh_iconst_1 dX6_report_78 (q := 79) rfl ?_
          refine mh_iadd dX6_report_79 (q := 80) rfl ?_
          rw [nI_1]
          refine mh_putI (Or.inl fw_X6_208) rfl rfl dX6_report_80 (q := 83) rfl (shX6_0 h62) rfl ?_
          refine mh_aload_0 dX6_report_83 (q := 84) rfl ?_
          refine mh_getI fl_X6_208 dX6_report_84 (q := 87) rfl (shX6_0 h62) rfl ?_
          rw [mhUF_at]
          refine mh_iconst_1 dX6_report_87 (q := 88) rfl ?_
          refine mh_isub dX6_report_88 (q := 89) rfl ?_
          rw [show nI (nr + 1) - 1 = nI nr from by rw [← nI_1]; grind]
          refine mh_ireturn dX6_report_89 rfl rfl ?_
          have uf : ∀ k, mhUF F2 0 8 (nI (nr + 1)) S.length k = F2 S.length k := fun k => mhUF_ne (by omega)
          exact ht j r hj hr rfl rfl ct c44 S2 _ hS2 (fun c k hc e => (mhUF_nk e).trans (fo c k hc)) mhUF_at (by rw [uf, hF2]; repeat (first | rw [mhUF_at] | rw [mhUF_nk (by omega)])) (by rw [uf, hF2]; repeat (first | rw [mhUF_at] | rw [mhUF_nk (by omega)])) (by rw [uf, hF2]; repeat (first | rw [mhUF_at] | rw [mhUF_nk (by omega)])) (by rw [uf, hF2]; repeat (first | rw [mhUF_at] | rw [mhUF_nk (by omega)])) (by rw [uf, hF2]; exact mhUF_at)
        · skip
          rw [show (12 : Int32) = nI 12 from rfl, nI_ltI (by omega) (by decide)] at c44
          refine mh_bipush (v := (-4)) dX6_report_47 (q := 49) rfl (by decide) ?_
          refine mh_ireturn dX6_report_49 rfl rfl ?_
          exact hf ⟨j, hj, rfl, r, hr, rfl⟩ ct (by omega)
      · skip
        refine mh_if_ne dX6_report_29 (tgt := 35) (q := 32) rfl rfl (fun hh => False.elim (by revert hh; decide)) (fun _ => ?_)
        refine mh_bipush (v := (-2)) dX6_report_32 (q := 34) rfl (by decide) ?_
        refine mh_ireturn dX6_report_34 rfl rfl ?_
        exact hb ⟨j, hj, rfl, r, hr, rfl⟩ ct
    · skip
      refine mh_if_ne dX6_report_18 (tgt := 23) (q := 21) rfl rfl (fun hh => False.elim (by revert hh; decide)) (fun _ => ?_)
      refine mh_iconst_m1 dX6_report_21 (q := 22) rfl ?_
      refine mh_ireturn dX6_report_22 rfl rfl ?_
      exact hn (fun ⟨i, hi, e, e1⟩ => by first | exact hk ⟨i, hi, e⟩ | (have e4 : j = i := (nI_eq (by have := hC.2.1; omega) (by have := hC.2.1; omega)).mp e; subst e4; exact hk e1))
