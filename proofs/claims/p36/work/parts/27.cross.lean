/-! one crossing more, on both sides -/
theorem mhUF_nk {F : mhF} {a k b j : Nat} {x : Int32} (h : ¬ (b = a ∧ j = k)) : mhUF F a k x b j = F b j := if_neg h
theorem mhUF_at {F : mhF} {a k : Nat} {x : Int32} : mhUF F a k x a k = x := if_pos ⟨rfl, rfl⟩
theorem mh_fold {I : mhI} {f : Nat → Nat} {fa d : Nat} (hd : d < 3) (hf : ∀ x, x < 3 → I fa (nI x) = nI (f x)) : ∀ x, x < 3 → mhUI (mhUI I fa (nI ((d + 1) % 3)) (nI (f ((d + 2) % 3)))) fa (nI ((d + 2) % 3)) (nI (f ((d + 1) % 3))) fa (nI x) = nI (sgFold f d x) := by
  intro x hx
  rw [mhUI_at (by omega) (by omega), mhUI_at (by omega) (by omega)]
  unfold sgFold
  by_cases h1 : x = (d + 2) % 3
  · rw [if_pos ⟨rfl, h1⟩, if_neg (by omega), if_pos h1]
  · rw [if_neg (fun e => h1 e.2)]
    by_cases h2 : x = (d + 1) % 3
    · rw [if_pos ⟨rfl, h2⟩, if_pos h2]
    · rw [if_neg (fun e => h2 e.2), if_neg h2, if_neg h1, hf x hx]
theorem mh_up3 {I : mhI} {t p : Nat → Nat} {ta d : Nat} (hd : d < 3) (hp : ¬ p d = 0) (h : ∀ x, x < 3 → (¬ p x = 0 → I ta (nI x) = nI (t x)) ∧ (p x = 0 → ¬ I ta (nI x) < 0)) : ∀ x, x < 3 → (¬ p x = 0 → mhUI I ta (nI d) (nI (t d + 3)) ta (nI x) = nI (sgUp t d x)) ∧ (p x = 0 → ¬ mhUI I ta (nI d) (nI (t d + 3)) ta (nI x) < 0) := by
  intro x hx
  rw [mhUI_at (by omega) (by omega)]
  unfold sgUp
  by_cases h1 : x = d
  · subst h1
    rw [if_pos ⟨rfl, rfl⟩, if_pos rfl]
    exact ⟨fun _ => rfl, fun e => absurd e hp⟩
  · rw [if_neg (fun e => h1 e.2), if_neg h1]
    exact h x hx
theorem sgNw_some {t p : Nat → Nat} {d : Nat} (h : sgNw t p = some d) : d < 3 ∧ ¬ p d = 0 := by
  unfold sgNw at h
  split at h
  · cases h
  · exact nwF_some h
set_option maxHeartbeats 4000000 in
set_option maxRecDepth 100000 in
theorem sp_X4_foldOver {l : Launch} {K : mhX} {Φ : mhQ} {S : List mhS} {F : mhF} {I : mhI} {J : mhJ} {P : mhP} (h4 : mhKX4 S) {f : Nat → Nat} {d : Nat} (hd : d < 3) (hf : ∀ x, x < 3 → I 9 (nI x) = nI (f x)) (hΦ : ∀ I2 : mhI, (∀ x, x < 3 → I2 9 (nI x) = nI (sgFold f d x)) → (∀ b j, b ≠ 9 → I2 b j = I b j) → Φ none S F I2 J P) : mhOk l K mX4_foldOver [.ref 6, .int (nI d)] S F I J P Φ := by
  refine mhOk.of (by decide) (by decide) rfl (Nat.le_of_ble_eq_true rfl) ?_
  have e1 : (nI d + 1 - (nI d + 1) / 3 * 3 : Int32) = nI ((d + 1) % 3) := by rw [nI_1]; exact mh_m3 (by omega)
  have e2 : (nI d + 2 - (nI d + 2) / 3 * 3 : Int32) = nI ((d + 2) % 3) := by rw [show (nI d + 2 : Int32) = nI (d + 2) from nI_add d 2]; exact mh_m3 (by omega)
  refine mh_iload_1 dX4_foldOver_0 (q := 1) rfl ?_
  refine mh_iconst_1 dX4_foldOver_1 (q := 2) rfl ?_
  refine mh_iadd dX4_foldOver_2 (q := 3) rfl ?_
  refine mh_iconst_3 dX4_foldOver_3 (q := 4) rfl ?_
  refine mh_irem dX4_foldOver_4 (q := 5) rfl (by decide) ?_
  rw [e1]
  refine mh_istore_2 dX4_foldOver_5 (q := 6) rfl ?_
  refine mh_iload_1 dX4_foldOver_6 (q := 7) rfl ?_
  refine mh_iconst_2 dX4_foldOver_7 (q := 8) rfl ?_
  refine mh_iadd dX4_foldOver_8 (q := 9) rfl ?_
  refine mh_iconst_3 dX4_foldOver_9 (q := 10) rfl ?_
  refine mh_irem dX4_foldOver_10 (q := 11) rfl (by decide) ?_
  rw [e2]
  refine mh_istore_3 dX4_foldOver_11 (q := 12) rfl ?_
  refine mh_aload_0 dX4_foldOver_12 (q := 13) rfl ?_
  refine mh_getR fl_X4_18 dX4_foldOver_13 (q := 16) rfl (shX4_0 h4) rfl ?_
  refine mh_iload_2 dX4_foldOver_16 (q := 17) rfl ?_
  refine mh_iald dX4_foldOver_17 (q := 18) rfl (shX4_3 h4) (vp_in_nI (by omega) (by decide)) ?_
  rw [hf _ (by omega)]
  refine mh_istore_4 dX4_foldOver_18 (q := 20) rfl ?_
  refine mh_aload_0 dX4_foldOver_20 (q := 21) rfl ?_
  refine mh_getR fl_X4_18 dX4_foldOver_21 (q := 24) rfl (shX4_0 h4) rfl ?_
  refine mh_iload_2 dX4_foldOver_24 (q := 25) rfl ?_
  refine mh_aload_0 dX4_foldOver_25 (q := 26) rfl ?_
  refine mh_getR fl_X4_18 dX4_foldOver_26 (q := 29) rfl (shX4_0 h4) rfl ?_
  refine mh_iload_3 dX4_foldOver_29 (q := 30) rfl ?_
  refine mh_iald dX4_foldOver_30 (q := 31) rfl (shX4_3 h4) (vp_in_nI (by omega) (by decide)) ?_
  rw [hf _ (by omega)]
  refine mh_iast dX4_foldOver_31 (q := 32) rfl (shX4_3 h4) (by decide) (vp_in_nI (by omega) (by decide)) ?_
  refine mh_aload_0 dX4_foldOver_32 (q := 33) rfl ?_
  refine mh_getR fl_X4_18 dX4_foldOver_33 (q := 36) rfl (shX4_0 h4) rfl ?_
  refine mh_iload_3 dX4_foldOver_36 (q := 37) rfl ?_
  refine mh_iload_4 dX4_foldOver_37 (q := 39) rfl ?_
  refine mh_iast dX4_foldOver_39 (q := 40) rfl (shX4_3 h4) (by decide) (vp_in_nI (by omega) (by decide)) ?_
  refine mh_return dX4_foldOver_40 rfl ?_
  exact hΦ _ (mh_fold hd hf) (fun b j hb => (mhUI_ne hb).trans (mhUI_ne hb))
/-- the panes of a class's house at a, of the reference's house j -/
def mhPn (I : mhI) (a w h : Nat) (kd : Nat → Int32) : Prop := ∀ k, k < gSides w h → I (a + 1) (nI k) = kd k
def mhKn (I : mhI) (j w h : Nat) (kd : Nat → Int32) : Prop := ∀ k, k < gSides w h → I 27 (nI (50 * j + k)) = kd k
theorem mhPn.fr {F F' : mhF} {I I' : mhI} {a w h : Nat} {kd : Nat → Int32} (hf : frC F I F' I') (ha : 21 ≤ a) (H : mhPn I a w h kd) : mhPn I' a w h kd := fun k hk => (hf.2 _ _ (by omega) (by omega) (by omega)).trans (H k hk)
theorem mhKn.fr {F F' : mhF} {I I' : mhI} {j w h : Nat} {kd : Nat → Int32} (hf : frM F I F' I') (H : mhKn I j w h kd) : mhKn I' j w h kd := fun k hk => (hf.2 _ _ (by decide) (by decide) (by decide)).trans (H k hk)
set_option maxHeartbeats 4000000 in
set_option maxRecDepth 100000 in
theorem sp_X4_goOn {l : Launch} {K : mhX} {Φ : mhQ} {S : List mhS} {F : mhF} {I : mhI} {J : mhJ} {P : mhP} (h4 : mhKX4 S) {p : Nat → Nat} {g : mhSg} {w h : Nat} {a : Nat} {kd : Nat → Int32} (hH : mhHs S F I a w h) (hk : mhPn I a w h kd) (hg : sgC p F I g) (ok : sgOk w h p g) (hc : g.2.2.2.1 < 1000) (hΦ : ∀ (F2 : mhF) (I2 : mhI), sgC p F2 I2 (sgStep w h kd p g) → frC F I F2 I2 → Φ none S F2 I2 J P) : mhOk l K mX4_goOn [.ref 6, .ref a] S F I J P Φ := by
  refine mhOk.of (by decide) (by decide) rfl (Nat.le_of_ble_eq_true rfl) ?_
  refine mh_aload_0 dX4_goOn_0 (q := 1) rfl ?_
  refine mh_callV0 ca_X4_goOn_1 (shX4_0 h4) (q := 4) rfl (by simp [Value.category]) ⟨Nat.zero_le _, Nat.zero_le _⟩ ?_
  refine sp_X4_nextWay h4 hg ok ?_
  have k1 := ok.2.2.1
  have k2 := ok.1
  have kb := gBd hH.2.1
  have kr := ok.2.1
  rcases hn : sgNw g.1 p with _ | d
  · skip
    dsimp only [onN]
    refine mh_istore_2 dX4_goOn_4 (q := 5) rfl ?_
    refine mh_iload_2 dX4_goOn_5 (q := 6) rfl ?_
    refine mh_bipush (v := (-9)) dX4_goOn_6 (q := 8) rfl (by decide) ?_
    refine mh_icmp_ne dX4_goOn_8 (tgt := 17) (q := 11) rfl rfl (fun hh => False.elim (by revert hh; decide)) (fun _ => ?_)
    refine mh_aload_0 dX4_goOn_11 (q := 12) rfl ?_
    refine mh_iconst_0 dX4_goOn_12 (q := 13) rfl ?_
    refine mh_putI (Or.inl fw_X4_25) rfl rfl dX4_goOn_13 (q := 16) rfl (shX4_0 h4) rfl ?_
    refine mh_return dX4_goOn_16 rfl ?_
    have hst : sgStep w h kd p g = (g.1, g.2.1, g.2.2.1, g.2.2.2.1, g.2.2.2.2.1, g.2.2.2.2.2.1, 0) := by unfold sgStep; rw [hn]
    refine hΦ _ _ ?_ ⟨fun b k e => by repeat rw [mhUF_nk (by omega)], fun b j e1 e2 e3 => rfl⟩
    rw [hst]
    obtain ⟨q1, q2, q3, q4, q5, q6⟩ := hg
    exact ⟨q1, (by (repeat (first | rw [mhUF_at] | rw [mhUF_nk (by decide)])) <;> first | assumption | rfl), (by (repeat (first | rw [mhUF_at] | rw [mhUF_nk (by decide)])) <;> first | assumption | rfl), (by (repeat (first | rw [mhUF_at] | rw [mhUF_nk (by decide)])) <;> first | assumption | rfl), (by (repeat (first | rw [mhUF_at] | rw [mhUF_nk (by decide)])) <;> first | assumption | rfl), (by (repeat (first | rw [mhUF_at] | rw [mhUF_nk (by decide)])) <;> first | assumption | rfl)⟩
  · skip
    dsimp only [onN]
    have hd := sgNw_some hn
    have kd := k2 d hd.1
    have kf := (k2 d hd.1).2.2
    refine mh_istore_2 dX4_goOn_4 (q := 5) rfl ?_
    refine mh_iload_2 dX4_goOn_5 (q := 6) rfl ?_
    refine mh_bipush (v := (-9)) dX4_goOn_6 (q := 8) rfl (by decide) ?_
    refine mh_icmp_ne dX4_goOn_8 (tgt := 17) (q := 11) rfl rfl (fun _ => ?_) (fun hh => absurd hh (mh_n9 (by omega)))
    refine mh_aload_0 dX4_goOn_17 (q := 18) rfl ?_
    refine mh_getR fl_X4_9 dX4_goOn_18 (q := 21) rfl (shX4_0 h4) rfl ?_
    refine mh_iload_2 dX4_goOn_21 (q := 22) rfl ?_
    refine mh_dup2ir dX4_goOn_22 (q := 23) rfl ?_
    refine mh_iald dX4_goOn_23 (q := 24) rfl (shX4_1 h4) (vp_in_nI (by omega) (by decide)) ?_
    rw [(hg.1 d hd.1).1 hd.2]
    refine mh_iconst_3 dX4_goOn_24 (q := 25) rfl ?_
    refine mh_iadd dX4_goOn_25 (q := 26) rfl ?_
    rw [show (nI (g.1 d) + 3 : Int32) = nI (g.1 d + 3) from nI_add _ 3]
    refine mh_iast dX4_goOn_26 (q := 27) rfl (shX4_1 h4) (by decide) (vp_in_nI (by omega) (by decide)) ?_
    obtain ⟨I1, hI1⟩ : ∃ z, z = mhUI I 7 (nI d) (nI (g.1 d + 3)) := ⟨_, rfl⟩
    rw [← hI1]
    have u1 := mh_up3 (I := I) (t := g.1) (p := p) (ta := 7) hd.1 hd.2 (fun x hx => ⟨(hg.1 x hx).1, (hg.1 x hx).2.1⟩)
    rw [← hI1] at u1
    have u2 : ∀ b j, b ≠ 7 → I1 b j = I b j := fun b j hb => by rw [hI1]; exact mhUI_ne hb
    have u3 : ∀ x, x < 3 → I1 9 (nI x) = nI (g.2.1 x) := fun x hx => (u2 _ _ (by decide)).trans (hg.1 x hx).2.2.2
    have v1 : frC F I (mhUF F 6 1 (nI (g.2.2.2.1 + 1))) I1 := ⟨fun b k e => by repeat rw [mhUF_nk (by omega)], fun b j e1 _ _ => u2 b j e1⟩
    have hH1 := hH.fr v1
    refine mh_aload_0 dX4_goOn_27 (q := 28) rfl ?_
    refine mh_dupr dX4_goOn_28 (q := 29) rfl ?_
    refine mh_getI fl_X4_33 dX4_goOn_29 (q := 32) rfl (shX4_0 h4) rfl ?_
    rw [hg.2.2.1]
    refine mh_iconst_1 dX4_goOn_32 (q := 33) rfl ?_
    refine mh_iadd dX4_goOn_33 (q := 34) rfl ?_
    rw [nI_1]
    refine mh_putI (Or.inl fw_X4_33) rfl rfl dX4_goOn_34 (q := 37) rfl (shX4_0 h4) rfl ?_
    refine mh_aload_0 dX4_goOn_37 (q := 38) rfl ?_
    refine mh_aload_1 dX4_goOn_38 (q := 39) rfl ?_
    refine mh_aload_0 dX4_goOn_39 (q := 40) rfl ?_
    refine mh_getI fl_X4_39 dX4_goOn_40 (q := 43) rfl (shX4_0 h4) rfl ?_
    first
    | rw [show (mhUF F 6 1 (nI (g.2.2.2.1 + 1))) 6 3 = nI g.2.2.1 from (by have := hg.2.1; (repeat (first | rw [mhUF_at] | rw [mhUF_nk (by decide)])) <;> first | assumption | rfl)]
    | rw [show mhUF (mhUF F 6 1 (nI (g.2.2.2.1 + 1))) 6 4 (nI (gSide w h g.2.2.1 (g.2.1 d))) 6 3 = nI g.2.2.1 from (by have := hg.2.1; (repeat (first | rw [mhUF_at] | rw [mhUF_nk (by decide)])) <;> first | assumption | rfl)]
    refine mh_aload_0 dX4_goOn_43 (q := 44) rfl ?_
    refine mh_getR fl_X4_18 dX4_goOn_44 (q := 47) rfl (shX4_0 h4) rfl ?_
    refine mh_iload_2 dX4_goOn_47 (q := 48) rfl ?_
    refine mh_iald dX4_goOn_48 (q := 49) rfl (shX4_3 h4) (vp_in_nI (by omega) (by decide)) ?_
    rw [u3 d hd.1]
    refine mh_callV2 ca_X4_goOn_49 (shX1_0 hH.1) (q := 52) rfl (by simp [Value.category]) ⟨Nat.zero_le _, Nat.zero_le _⟩ ?_
    refine sp_X1_sideOf hH1 kr kf ?_
    refine mh_putI (Or.inl fw_X4_42) rfl rfl dX4_goOn_52 (q := 55) rfl (shX4_0 h4) rfl ?_
    refine mh_aload_1 dX4_goOn_55 (q := 56) rfl ?_
    refine mh_getR fl_X4_67 dX4_goOn_56 (q := 59) rfl (shX1_0 hH.1) rfl ?_
    refine mh_aload_0 dX4_goOn_59 (q := 60) rfl ?_
    refine mh_getI fl_X4_42 dX4_goOn_60 (q := 63) rfl (shX4_0 h4) rfl ?_
    rw [show mhUF (mhUF F 6 1 (nI (g.2.2.2.1 + 1))) 6 4 (nI (gSide w h g.2.2.1 (g.2.1 d))) 6 4 = nI (gSide w h g.2.2.1 (g.2.1 d)) from (by (repeat (first | rw [mhUF_at] | rw [mhUF_nk (by decide)])) <;> first | assumption | rfl)]
    refine mh_iald dX4_goOn_63 (q := 64) rfl (shX1_1 hH.1) (vp_in_nI (by have := (gT1 hH.2.1 kr kf).2.1; omega) (by decide)) ?_
    rw [u2 _ _ (by have := hH.2.2.2.2.2.2.2.2.2.2; omega)]
    rw [hk _ (gT1 hH.2.1 kr kf).2.1]
    refine mh_if_ne dX4_goOn_64 (tgt := 83) (q := 67) rfl rfl (fun cm => ?_) (fun cm => ?_)
    · skip
      refine mh_aload_1 dX4_goOn_83 (q := 84) rfl ?_
      refine mh_aload_0 dX4_goOn_84 (q := 85) rfl ?_
      refine mh_getI fl_X4_39 dX4_goOn_85 (q := 88) rfl (shX4_0 h4) rfl ?_
      first
      | rw [show (mhUF F 6 1 (nI (g.2.2.2.1 + 1))) 6 3 = nI g.2.2.1 from (by have := hg.2.1; (repeat (first | rw [mhUF_at] | rw [mhUF_nk (by decide)])) <;> first | assumption | rfl)]
      | rw [show mhUF (mhUF F 6 1 (nI (g.2.2.2.1 + 1))) 6 4 (nI (gSide w h g.2.2.1 (g.2.1 d))) 6 3 = nI g.2.2.1 from (by have := hg.2.1; (repeat (first | rw [mhUF_at] | rw [mhUF_nk (by decide)])) <;> first | assumption | rfl)]
      refine mh_aload_0 dX4_goOn_88 (q := 89) rfl ?_
      refine mh_getR fl_X4_18 dX4_goOn_89 (q := 92) rfl (shX4_0 h4) rfl ?_
      refine mh_iload_2 dX4_goOn_92 (q := 93) rfl ?_
      refine mh_iald dX4_goOn_93 (q := 94) rfl (shX4_3 h4) (vp_in_nI (by omega) (by decide)) ?_
      rw [u3 d hd.1]
      refine mh_callV2 ca_X4_goOn_94 (shX1_0 hH.1) (q := 97) rfl (by simp [Value.category]) ⟨Nat.zero_le _, Nat.zero_le _⟩ ?_
      have hH2 := hH.fr (F' := mhUF (mhUF F 6 1 (nI (g.2.2.2.1 + 1))) 6 4 (nI (gSide w h g.2.2.1 (g.2.1 d)))) (I' := I1) ⟨fun b k e => by repeat rw [mhUF_nk (by omega)], fun b j e1 _ _ => u2 b j e1⟩
      refine sp_X1_behind hH2 kr kf ?_
      skip
      refine mh_istore_3 dX4_goOn_97 (q := 98) rfl ?_
      refine mh_iload_3 dX4_goOn_98 (q := 99) rfl ?_
      refine mh_bipush (v := (-9)) dX4_goOn_99 (q := 101) rfl (by decide) ?_
      refine mh_icmp_ne dX4_goOn_101 (tgt := 112) (q := 104) rfl rfl (fun cb => ?_) (fun cb => ?_)
      · skip
        refine mh_aload_0 dX4_goOn_112 (q := 113) rfl ?_
        refine mh_iload_3 dX4_goOn_113 (q := 114) rfl ?_
        refine mh_putI (Or.inl fw_X4_39) rfl rfl dX4_goOn_114 (q := 117) rfl (shX4_0 h4) rfl ?_
        refine mh_return dX4_goOn_117 rfl ?_
        first
        | (refine hΦ _ _ ?_ ⟨fun b k e => by repeat rw [mhUF_nk (by omega)], fun b j e1 _ _ => u2 b j e1⟩
           unfold sgStep
           rw [hn]
           dsimp only
           rw [if_neg cm, if_pos cb]
           obtain ⟨q1, q2, q3, q4, q5, q6⟩ := hg
           exact ⟨fun x hx => ⟨(u1 x hx).1, (u1 x hx).2, (u2 _ _ (by decide)).trans (q1 x hx).2.2.1, u3 x hx⟩, (by (repeat (first | rw [mhUF_at] | rw [mhUF_nk (by decide)])) <;> first | assumption | rfl), (by (repeat (first | rw [mhUF_at] | rw [mhUF_nk (by decide)])) <;> first | assumption | rfl), (by (repeat (first | rw [mhUF_at] | rw [mhUF_nk (by decide)])) <;> first | assumption | rfl), (by (repeat (first | rw [mhUF_at] | rw [mhUF_nk (by decide)])) <;> first | assumption | rfl), (by (repeat (first | rw [mhUF_at] | rw [mhUF_nk (by decide)])) <;> first | assumption | rfl)⟩)
        | (have hq : nI (gB w h g.2.2.1 (g.2.1 d)).toNatClampNeg = gB w h g.2.2.1 (g.2.1 d) := by
             rcases gB1 hH.2.1 kr kf with e | ⟨q, hq, e⟩
             · exact absurd e cb
             · rw [e, nI_clamp (by omega)]
           refine hΦ _ _ ?_ ⟨fun b k e => by repeat rw [mhUF_nk (by omega)], fun b j e1 _ _ => u2 b j e1⟩
           unfold sgStep
           rw [hn]
           dsimp only
           rw [if_neg cm, if_neg cb]
           obtain ⟨q1, q2, q3, q4, q5, q6⟩ := hg
           exact ⟨fun x hx => ⟨(u1 x hx).1, (u1 x hx).2, (u2 _ _ (by decide)).trans (q1 x hx).2.2.1, u3 x hx⟩, by rw [hq]; (repeat (first | rw [mhUF_at] | rw [mhUF_nk (by decide)])) <;> first | assumption | rfl, (by (repeat (first | rw [mhUF_at] | rw [mhUF_nk (by decide)])) <;> first | assumption | rfl), (by (repeat (first | rw [mhUF_at] | rw [mhUF_nk (by decide)])) <;> first | assumption | rfl), (by (repeat (first | rw [mhUF_at] | rw [mhUF_nk (by decide)])) <;> first | assumption | rfl), (by (repeat (first | rw [mhUF_at] | rw [mhUF_nk (by decide)])) <;> first | assumption | rfl)⟩)
      · skip
        refine mh_aload_0 dX4_goOn_104 (q := 105) rfl ?_
        refine mh_iconst_1 dX4_goOn_105 (q := 106) rfl ?_
        refine mh_putI (Or.inl fw_X4_25) rfl rfl dX4_goOn_106 (q := 109) rfl (shX4_0 h4) rfl ?_
        refine mh_goto dX4_goOn_109 (tgt := 117) rfl ?_
        refine mh_return dX4_goOn_117 rfl ?_
        first
        | (refine hΦ _ _ ?_ ⟨fun b k e => by repeat rw [mhUF_nk (by omega)], fun b j e1 _ _ => u2 b j e1⟩
           unfold sgStep
           rw [hn]
           dsimp only
           rw [if_neg cm, if_pos cb]
           obtain ⟨q1, q2, q3, q4, q5, q6⟩ := hg
           exact ⟨fun x hx => ⟨(u1 x hx).1, (u1 x hx).2, (u2 _ _ (by decide)).trans (q1 x hx).2.2.1, u3 x hx⟩, (by (repeat (first | rw [mhUF_at] | rw [mhUF_nk (by decide)])) <;> first | assumption | rfl), (by (repeat (first | rw [mhUF_at] | rw [mhUF_nk (by decide)])) <;> first | assumption | rfl), (by (repeat (first | rw [mhUF_at] | rw [mhUF_nk (by decide)])) <;> first | assumption | rfl), (by (repeat (first | rw [mhUF_at] | rw [mhUF_nk (by decide)])) <;> first | assumption | rfl), (by (repeat (first | rw [mhUF_at] | rw [mhUF_nk (by decide)])) <;> first | assumption | rfl)⟩)
        | (have hq : nI (gB w h g.2.2.1 (g.2.1 d)).toNatClampNeg = gB w h g.2.2.1 (g.2.1 d) := by
             rcases gB1 hH.2.1 kr kf with e | ⟨q, hq, e⟩
             · exact absurd e cb
             · rw [e, nI_clamp (by omega)]
           refine hΦ _ _ ?_ ⟨fun b k e => by repeat rw [mhUF_nk (by omega)], fun b j e1 _ _ => u2 b j e1⟩
           unfold sgStep
           rw [hn]
           dsimp only
           rw [if_neg cm, if_neg cb]
           obtain ⟨q1, q2, q3, q4, q5, q6⟩ := hg
           exact ⟨fun x hx => ⟨(u1 x hx).1, (u1 x hx).2, (u2 _ _ (by decide)).trans (q1 x hx).2.2.1, u3 x hx⟩, by rw [hq]; (repeat (first | rw [mhUF_at] | rw [mhUF_nk (by decide)])) <;> first | assumption | rfl, (by (repeat (first | rw [mhUF_at] | rw [mhUF_nk (by decide)])) <;> first | assumption | rfl), (by (repeat (first | rw [mhUF_at] | rw [mhUF_nk (by decide)])) <;> first | assumption | rfl), (by (repeat (first | rw [mhUF_at] | rw [mhUF_nk (by decide)])) <;> first | assumption | rfl), (by (repeat (first | rw [mhUF_at] | rw [mhUF_nk (by decide)])) <;> first | assumption | rfl)⟩)
    · skip
      refine mh_aload_0 dX4_goOn_67 (q := 68) rfl ?_
      refine mh_dupr dX4_goOn_68 (q := 69) rfl ?_
      refine mh_getI fl_X4_36 dX4_goOn_69 (q := 72) rfl (shX4_0 h4) rfl ?_
      rw [show mhUF (mhUF F 6 1 (nI (g.2.2.2.1 + 1))) 6 4 (nI (gSide w h g.2.2.1 (g.2.1 d))) 6 2 = nI g.2.2.2.2.1 from (by have := hg.2.2.2.1; (repeat (first | rw [mhUF_at] | rw [mhUF_nk (by decide)])) <;> first | assumption | rfl)]
      refine mh_iconst_1 dX4_goOn_72 (q := 73) rfl ?_
      refine mh_iadd dX4_goOn_73 (q := 74) rfl ?_
      rw [nI_1]
      refine mh_putI (Or.inl fw_X4_36) rfl rfl dX4_goOn_74 (q := 77) rfl (shX4_0 h4) rfl ?_
      refine mh_aload_0 dX4_goOn_77 (q := 78) rfl ?_
      refine mh_iload_2 dX4_goOn_78 (q := 79) rfl ?_
      refine mh_callV1 ca_X4_goOn_79 (shX4_0 h4) (q := 82) rfl (by simp [Value.category]) ⟨Nat.zero_le _, Nat.zero_le _⟩ ?_
      refine sp_X4_foldOver h4 hd.1 u3 (fun I2 w1 w2 => ?_)
      refine mh_return dX4_goOn_82 rfl ?_
      refine hΦ _ _ ?_ ⟨fun b k e => by repeat rw [mhUF_nk (by omega)], (fun b j e1 _ e3 => (w2 b j e3).trans (u2 b j e1))⟩
      unfold sgStep
      rw [hn]
      dsimp only
      rw [if_pos cm]
      obtain ⟨q1, q2, q3, q4, q5, q6⟩ := hg
      exact ⟨fun x hx => ⟨fun z => (w2 _ _ (by decide)).trans ((u1 x hx).1 z), fun z => by rw [w2 _ _ (by decide)]; exact (u1 x hx).2 z, (w2 _ _ (by decide)).trans ((u2 _ _ (by decide)).trans (q1 x hx).2.2.1), w1 x hx⟩, (by (repeat (first | rw [mhUF_at] | rw [mhUF_nk (by decide)])) <;> first | assumption | rfl), (by (repeat (first | rw [mhUF_at] | rw [mhUF_nk (by decide)])) <;> first | assumption | rfl), (by (repeat (first | rw [mhUF_at] | rw [mhUF_nk (by decide)])) <;> first | assumption | rfl), (by (repeat (first | rw [mhUF_at] | rw [mhUF_nk (by decide)])) <;> first | assumption | rfl), (by (repeat (first | rw [mhUF_at] | rw [mhUF_nk (by decide)])) <;> first | assumption | rfl)⟩
