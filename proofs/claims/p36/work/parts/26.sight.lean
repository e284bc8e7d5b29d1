/-! sight: both sides' lines -/
/-- a line as it lies in the object o (its room, crossings, mirrors, side, end) and in its three arrays -/
def sgR (ob r c m s e ta pa fa : Nat) (p : Nat → Nat) (F : mhF) (I : mhI) (g : mhSg) : Prop :=
  (∀ d, d < 3 → (¬ p d = 0 → I ta (nI d) = nI (g.1 d)) ∧ (p d = 0 → ¬ I ta (nI d) < 0) ∧ I pa (nI d) = nI (p d) ∧ I fa (nI d) = nI (g.2.1 d)) ∧ F ob r = nI g.2.2.1 ∧ F ob c = nI g.2.2.2.1 ∧ F ob m = nI g.2.2.2.2.1 ∧ F ob s = g.2.2.2.2.2.1 ∧ F ob e = g.2.2.2.2.2.2
abbrev sgC (p : Nat → Nat) (F : mhF) (I : mhI) (g : mhSg) : Prop := sgR 6 3 1 2 4 0 7 8 9 p F I g
abbrev sgM (p : Nat → Nat) (F : mhF) (I : mhI) (g : mhSg) : Prop := sgR 21 15 16 17 18 19 29 30 31 p F I g
/-- what else there is stays -/
def frC (F : mhF) (I : mhI) (F' : mhF) (I' : mhI) : Prop := (∀ b k, ¬ (b = 6 ∧ k < 5) → F' b k = F b k) ∧ ∀ b j, b ≠ 7 → b ≠ 8 → b ≠ 9 → I' b j = I b j
def frM (F : mhF) (I : mhI) (F' : mhF) (I' : mhI) : Prop := (∀ b k, ¬ (b = 21 ∧ 15 ≤ k ∧ k < 20) → F' b k = F b k) ∧ ∀ b j, b ≠ 29 → b ≠ 30 → b ≠ 31 → I' b j = I b j
theorem frC.rf {F : mhF} {I : mhI} : frC F I F I := ⟨fun _ _ _ => rfl, fun _ _ _ _ _ => rfl⟩
theorem frM.rf {F : mhF} {I : mhI} : frM F I F I := ⟨fun _ _ _ => rfl, fun _ _ _ _ _ => rfl⟩
theorem frC.tr {F F1 F2 : mhF} {I I1 I2 : mhI} (h : frC F I F1 I1) (h2 : frC F1 I1 F2 I2) : frC F I F2 I2 := ⟨fun b k e => (h2.1 b k e).trans (h.1 b k e), fun b j e1 e2 e3 => (h2.2 b j e1 e2 e3).trans (h.2 b j e1 e2 e3)⟩
theorem frM.tr {F F1 F2 : mhF} {I I1 I2 : mhI} (h : frM F I F1 I1) (h2 : frM F1 I1 F2 I2) : frM F I F2 I2 := ⟨fun b k e => (h2.1 b k e).trans (h.1 b k e), fun b j e1 e2 e3 => (h2.2 b j e1 e2 e3).trans (h.2 b j e1 e2 e3)⟩
theorem mhHs.fr {S : List mhS} {F F' : mhF} {I I' : mhI} {a w h : Nat} (hf : frC F I F' I') (H : mhHs S F I a w h) : mhHs S F' I' a w h := by
  obtain ⟨h1, h2, h3, h4, h5, h6, h7, h8, h9, h10, h11⟩ := H
  have e : ∀ k, F' a k = F a k := fun k => hf.1 a k (by omega)
  exact ⟨h1, h2, (e 0).trans h3, (e 1).trans h4, (e 2).trans h5, (e 3).trans h6, fun b hb j => (hf.2 _ j (by omega) (by omega) (by omega)).trans (h7 b hb j), (hf.2 _ _ (by omega) (by omega) (by omega)).trans h8, (hf.2 _ _ (by omega) (by omega) (by omega)).trans h9, (hf.2 _ _ (by omega) (by omega) (by omega)).trans h10, h11⟩
theorem mhHm.fr {F F' : mhF} {I I' : mhI} {j w h : Nat} (hf : frM F I F' I') (H : mhHm I j w h) : mhHm I' j w h := ⟨H.1, H.2.1, (hf.2 _ _ (by decide) (by decide) (by decide)).trans H.2.2.1, (hf.2 _ _ (by decide) (by decide) (by decide)).trans H.2.2.2⟩
theorem nwF_none {t p : Nat → Nat} : ∀ {n : Nat}, (nwF t p n).1 = none → (nwF t p n).2 = false
  | 0, _ => rfl
  | n + 1, h => by
    rw [nwF_s] at h ⊢
    by_cases hp : p n = 0
    · rw [if_pos hp] at h ⊢
      exact nwF_none h
    · rw [if_neg hp] at h ⊢
      cases hb : (nwF t p n).1 with
      | none => rfl
      | some b =>
        rw [hb] at h
        dsimp only at h
        split at h
        · cases h
        · split at h <;> cases h
theorem mh_m3 {n : Nat} (hn : n < 2 ^ 31) : nI n - nI n / 3 * 3 = nI (n % 3) := by rw [show (3 : Int32) = nI 3 from rfl]; exact pk_rem hn (by decide) (by decide)
set_option maxHeartbeats 4000000 in
set_option maxRecDepth 100000 in
theorem lp_X4_nextWay {l : Launch} {K : mhX} {kc ks : Nat} {Φ : mhQ} {S : List mhS} {F : mhF} {I : mhI} {J : mhJ} {P : mhP} (h4 : mhKX4 S) {p : Nat → Nat} {g : mhSg} {w h : Nat} (hg : sgC p F I g) (ok : sgOk w h p g) (hΦ : Φ (some (.int (onN (sgNw g.1 p)))) S F I J P) : ∀ (m d : Nat) (o4 : Option Value), d + m = 3 → mhV l K mX4_nextWay kc ks Φ 7 [some (.ref 6), some (.int (onN (nwF g.1 p d).1)), some (.int (bI (nwF g.1 p d).2)), some (.int (nI d)), o4] [] S F I J P := by
  intro m
  induction m with
  | zero =>
    intro d o4 hd
    obtain rfl : d = 3 := by omega
    unfold sgNw at hΦ
    rcases hq : nwF g.1 p 3 with ⟨b, tw⟩
    rw [hq] at hΦ
    cases tw with
    | true =>
      dsimp only
      refine mh_iload_3 dX4_nextWay_7 (q := 8) rfl ?_
      refine mh_iconst_3 dX4_nextWay_8 (q := 9) rfl ?_
      refine mh_icmp_ge dX4_nextWay_9 (tgt := 96) (q := 12) rfl rfl (fun _ => ?_) (fun hh => absurd (show (3 : Int32) ≤ nI 3 by decide) hh)
      refine mh_iload_2 dX4_nextWay_96 (q := 97) rfl ?_
      refine mh_if_eq dX4_nextWay_97 (tgt := 105) (q := 100) rfl rfl (fun hh => False.elim (by revert hh; decide)) (fun _ => ?_)
      refine mh_bipush (v := (-9)) dX4_nextWay_100 (q := 102) rfl (by decide) ?_
      refine mh_goto dX4_nextWay_102 (tgt := 106) rfl ?_
      refine mh_ireturn dX4_nextWay_106 rfl rfl ?_
      exact hΦ
    | false =>
      dsimp only
      refine mh_iload_3 dX4_nextWay_7 (q := 8) rfl ?_
      refine mh_iconst_3 dX4_nextWay_8 (q := 9) rfl ?_
      refine mh_icmp_ge dX4_nextWay_9 (tgt := 96) (q := 12) rfl rfl (fun _ => ?_) (fun hh => absurd (show (3 : Int32) ≤ nI 3 by decide) hh)
      refine mh_iload_2 dX4_nextWay_96 (q := 97) rfl ?_
      refine mh_if_eq dX4_nextWay_97 (tgt := 105) (q := 100) rfl rfl (fun _ => ?_) (fun hh => False.elim (by revert hh; decide))
      refine mh_iload_1 dX4_nextWay_105 (q := 106) rfl ?_
      refine mh_ireturn dX4_nextWay_106 rfl rfl ?_
      exact hΦ
  | succ m ih =>
    intro d o4 hd
    have hd3 : d < 3 := by omega
    have h9 := fun o4 => ih (d + 1) o4 (by omega)
    have hs := fun b => nwF_some (t := g.1) (p := p) (n := d) (b := b)
    rw [nwF_s] at h9
    have k0 := ok.1 d hd3
    have k1 := ok.2.2.1
    rcases hq : nwF g.1 p d with ⟨b, tw⟩
    rw [hq] at h9 hs
    dsimp only at hs
    by_cases c0 : p d = 0
    · simp only [if_pos c0] at h9
      refine mh_iload_3 dX4_nextWay_7 (q := 8) rfl ?_
      refine mh_iconst_3 dX4_nextWay_8 (q := 9) rfl ?_
      refine mh_icmp_ge dX4_nextWay_9 (tgt := 96) (q := 12) rfl rfl (fun hh => absurd hh (show ¬ (3 : Int32) ≤ nI d from nI_ge (b := 3) (by omega) (by decide))) (fun _ => ?_)
      refine mh_aload_0 dX4_nextWay_12 (q := 13) rfl ?_
      refine mh_getR fl_X4_15 dX4_nextWay_13 (q := 16) rfl (shX4_0 h4) rfl ?_
      refine mh_iload_3 dX4_nextWay_16 (q := 17) rfl ?_
      refine mh_iald dX4_nextWay_17 (q := 18) rfl (shX4_2 h4) (vp_in_nI (by omega) (by decide)) ?_
      rw [(hg.1 d (by omega)).2.2.1]
      refine mh_if_ne dX4_nextWay_18 (tgt := 24) (q := 21) rfl rfl (fun hh => absurd hh (fun e => e (by rw [c0]; rfl))) (fun _ => ?_)
      refine mh_goto dX4_nextWay_21 (tgt := 90) rfl ?_
      refine mh_iinc_3 (v := 1) dX4_nextWay_90 (q := 93) rfl (by decide) ?_
      refine mh_goto dX4_nextWay_93 (tgt := 7) rfl ?_
      rw [nI_1]
      exact h9 _
    · simp only [if_neg c0] at h9
      have p0 : ¬ nI (p d) = 0 := nI_ne0 (Nat.pos_of_ne_zero c0) (by omega)
      cases b with
      | none =>
        dsimp only at h9
        cases tw with
        | true =>
          have hz := nwF_none (t := g.1) (p := p) (n := d)
          rw [hq] at hz
          exact absurd (hz rfl) (by decide)
        | false =>
          dsimp only
          refine mh_iload_3 dX4_nextWay_7 (q := 8) rfl ?_
          refine mh_iconst_3 dX4_nextWay_8 (q := 9) rfl ?_
          refine mh_icmp_ge dX4_nextWay_9 (tgt := 96) (q := 12) rfl rfl (fun hh => absurd hh (show ¬ (3 : Int32) ≤ nI d from nI_ge (b := 3) (by omega) (by decide))) (fun _ => ?_)
          refine mh_aload_0 dX4_nextWay_12 (q := 13) rfl ?_
          refine mh_getR fl_X4_15 dX4_nextWay_13 (q := 16) rfl (shX4_0 h4) rfl ?_
          refine mh_iload_3 dX4_nextWay_16 (q := 17) rfl ?_
          refine mh_iald dX4_nextWay_17 (q := 18) rfl (shX4_2 h4) (vp_in_nI (by omega) (by decide)) ?_
          rw [(hg.1 d (by omega)).2.2.1]
          refine mh_if_ne dX4_nextWay_18 (tgt := 24) (q := 21) rfl rfl (fun _ => ?_) (fun hh => absurd hh p0)
          refine mh_iload_1 dX4_nextWay_24 (q := 25) rfl ?_
          refine mh_bipush (v := (-9)) dX4_nextWay_25 (q := 27) rfl (by decide) ?_
          refine mh_icmp_ne dX4_nextWay_27 (tgt := 34) (q := 30) rfl rfl (fun hh => False.elim (by revert hh; decide)) (fun _ => ?_)
          refine mh_iconst_m1 dX4_nextWay_30 (q := 31) rfl ?_
          refine mh_goto dX4_nextWay_31 (tgt := 61) rfl ?_
          refine mh_istore_4 dX4_nextWay_61 (q := 63) rfl ?_
          refine mh_iload_4 dX4_nextWay_63 (q := 65) rfl ?_
          refine mh_if_ge dX4_nextWay_65 (tgt := 70) (q := 68) rfl rfl (fun hh => False.elim (by revert hh; decide)) (fun _ => ?_)
          refine mh_iload_3 dX4_nextWay_68 (q := 69) rfl ?_
          refine mh_istore_1 dX4_nextWay_69 (q := 70) rfl ?_
          refine mh_iload_4 dX4_nextWay_70 (q := 72) rfl ?_
          refine mh_if_eq dX4_nextWay_72 (tgt := 84) (q := 75) rfl rfl (fun hh => False.elim (by revert hh; decide)) (fun _ => ?_)
          refine mh_iload_2 dX4_nextWay_75 (q := 76) rfl ?_
          refine mh_if_eq dX4_nextWay_76 (tgt := 88) (q := 79) rfl rfl (fun _ => ?_) (fun hh => False.elim (by revert hh; decide))
          refine mh_iconst_0 dX4_nextWay_88 (q := 89) rfl ?_
          refine mh_istore_2 dX4_nextWay_89 (q := 90) rfl ?_
          refine mh_iinc_3 (v := 1) dX4_nextWay_90 (q := 93) rfl (by decide) ?_
          refine mh_goto dX4_nextWay_93 (tgt := 7) rfl ?_
          rw [nI_1]
          exact h9 _
      | some b =>
        dsimp only at h9
        have hb := hs b rfl
        have hb3 : b < 3 := by omega
        have k2 := ok.1 b hb3
        have hpb : ¬ p b = 0 := hb.2
        have m1 : g.1 d * p b ≤ 4000 * 120 := Nat.mul_le_mul (by omega) (by omega)
        have m2 : g.1 b * p d ≤ 4000 * 120 := Nat.mul_le_mul (by omega) (by omega)
        have n9 : ¬ nI b = -9 := mh_n9 (by omega)
        cases tw with
        | true =>
          dsimp only [onN]
          refine mh_iload_3 dX4_nextWay_7 (q := 8) rfl ?_
          refine mh_iconst_3 dX4_nextWay_8 (q := 9) rfl ?_
          refine mh_icmp_ge dX4_nextWay_9 (tgt := 96) (q := 12) rfl rfl (fun hh => absurd hh (show ¬ (3 : Int32) ≤ nI d from nI_ge (b := 3) (by omega) (by decide))) (fun _ => ?_)
          refine mh_aload_0 dX4_nextWay_12 (q := 13) rfl ?_
          refine mh_getR fl_X4_15 dX4_nextWay_13 (q := 16) rfl (shX4_0 h4) rfl ?_
          refine mh_iload_3 dX4_nextWay_16 (q := 17) rfl ?_
          refine mh_iald dX4_nextWay_17 (q := 18) rfl (shX4_2 h4) (vp_in_nI (by omega) (by decide)) ?_
          rw [(hg.1 d (by omega)).2.2.1]
          refine mh_if_ne dX4_nextWay_18 (tgt := 24) (q := 21) rfl rfl (fun _ => ?_) (fun hh => absurd hh p0)
          refine mh_iload_1 dX4_nextWay_24 (q := 25) rfl ?_
          refine mh_bipush (v := (-9)) dX4_nextWay_25 (q := 27) rfl (by decide) ?_
          refine mh_icmp_ne dX4_nextWay_27 (tgt := 34) (q := 30) rfl rfl (fun _ => ?_) (fun hh => absurd hh n9)
          refine mh_aload_0 dX4_nextWay_34 (q := 35) rfl ?_
          refine mh_getR fl_X4_9 dX4_nextWay_35 (q := 38) rfl (shX4_0 h4) rfl ?_
          refine mh_iload_3 dX4_nextWay_38 (q := 39) rfl ?_
          refine mh_iald dX4_nextWay_39 (q := 40) rfl (shX4_1 h4) (vp_in_nI (by omega) (by decide)) ?_
          rw [(hg.1 d (by omega)).1 (by assumption)]
          refine mh_aload_0 dX4_nextWay_40 (q := 41) rfl ?_
          refine mh_getR fl_X4_15 dX4_nextWay_41 (q := 44) rfl (shX4_0 h4) rfl ?_
          refine mh_iload_1 dX4_nextWay_44 (q := 45) rfl ?_
          refine mh_iald dX4_nextWay_45 (q := 46) rfl (shX4_2 h4) (vp_in_nI (by omega) (by decide)) ?_
          rw [(hg.1 b (by omega)).2.2.1]
          refine mh_imul dX4_nextWay_46 (q := 47) rfl ?_
          refine mh_aload_0 dX4_nextWay_47 (q := 48) rfl ?_
          refine mh_getR fl_X4_9 dX4_nextWay_48 (q := 51) rfl (shX4_0 h4) rfl ?_
          refine mh_iload_1 dX4_nextWay_51 (q := 52) rfl ?_
          refine mh_iald dX4_nextWay_52 (q := 53) rfl (shX4_1 h4) (vp_in_nI (by omega) (by decide)) ?_
          rw [(hg.1 b (by omega)).1 (by assumption)]
          refine mh_aload_0 dX4_nextWay_53 (q := 54) rfl ?_
          refine mh_getR fl_X4_15 dX4_nextWay_54 (q := 57) rfl (shX4_0 h4) rfl ?_
          refine mh_iload_3 dX4_nextWay_57 (q := 58) rfl ?_
          refine mh_iald dX4_nextWay_58 (q := 59) rfl (shX4_2 h4) (vp_in_nI (by omega) (by decide)) ?_
          rw [(hg.1 d (by omega)).2.2.1]
          refine mh_imul dX4_nextWay_59 (q := 60) rfl ?_
          refine mh_isub dX4_nextWay_60 (q := 61) rfl ?_
          rw [pk_mul, pk_mul]
          have sb := mh_sb (A := g.1 d * p b) (B := g.1 b * p d) (by omega) (by omega)
          refine mh_istore_4 dX4_nextWay_61 (q := 63) rfl ?_
          refine mh_iload_4 dX4_nextWay_63 (q := 65) rfl ?_
          refine mh_if_ge dX4_nextWay_65 (tgt := 70) (q := 68) rfl rfl (fun c65 => ?_) (fun c65 => ?_)
          · skip
            refine mh_iload_4 dX4_nextWay_70 (q := 72) rfl ?_
            refine mh_if_eq dX4_nextWay_72 (tgt := 84) (q := 75) rfl rfl (fun c72 => ?_) (fun c72 => ?_)
            · skip
              refine mh_iconst_1 dX4_nextWay_84 (q := 85) rfl ?_
              refine mh_goto dX4_nextWay_85 (tgt := 89) rfl ?_
              refine mh_istore_2 dX4_nextWay_89 (q := 90) rfl ?_
              refine mh_iinc_3 (v := 1) dX4_nextWay_90 (q := 93) rfl (by decide) ?_
              refine mh_goto dX4_nextWay_93 (tgt := 7) rfl ?_
              rw [nI_1]
              rw [sb.2.1] at c65
              rw [sb.2.2.1] at c72
              first
              | (exfalso; omega)
              | (rw [if_pos (by omega)] at h9; exact h9 _)
              | (rw [if_neg (by omega), if_pos (by omega)] at h9; exact h9 _)
              | (rw [if_neg (by omega), if_neg (by omega)] at h9; exact h9 _)
              | (rw [sb.2.2.2] at c81
                 first
                 | (exfalso; omega)
                 | (rw [if_pos (by omega)] at h9; exact h9 _)
                 | (rw [if_neg (by omega), if_neg (by omega)] at h9; exact h9 _))
            · skip
              refine mh_iload_2 dX4_nextWay_75 (q := 76) rfl ?_
              refine mh_if_eq dX4_nextWay_76 (tgt := 88) (q := 79) rfl rfl (fun hh => False.elim (by revert hh; decide)) (fun _ => ?_)
              refine mh_iload_4 dX4_nextWay_79 (q := 81) rfl ?_
              refine mh_if_le dX4_nextWay_81 (tgt := 88) (q := 84) rfl rfl (fun c81 => ?_) (fun c81 => ?_)
              · skip
                refine mh_iconst_0 dX4_nextWay_88 (q := 89) rfl ?_
                refine mh_istore_2 dX4_nextWay_89 (q := 90) rfl ?_
                refine mh_iinc_3 (v := 1) dX4_nextWay_90 (q := 93) rfl (by decide) ?_
                refine mh_goto dX4_nextWay_93 (tgt := 7) rfl ?_
                rw [nI_1]
                rw [sb.2.1] at c65
                rw [sb.2.2.1] at c72
                first
                | (exfalso; omega)
                | (rw [if_pos (by omega)] at h9; exact h9 _)
                | (rw [if_neg (by omega), if_pos (by omega)] at h9; exact h9 _)
                | (rw [if_neg (by omega), if_neg (by omega)] at h9; exact h9 _)
                | (rw [sb.2.2.2] at c81
                   first
                   | (exfalso; omega)
                   | (rw [if_pos (by omega)] at h9; exact h9 _)
                   | (rw [if_neg (by omega), if_neg (by omega)] at h9; exact h9 _))
              · skip
                refine mh_iconst_1 dX4_nextWay_84 (q := 85) rfl ?_
                refine mh_goto dX4_nextWay_85 (tgt := 89) rfl ?_
                refine mh_istore_2 dX4_nextWay_89 (q := 90) rfl ?_
                refine mh_iinc_3 (v := 1) dX4_nextWay_90 (q := 93) rfl (by decide) ?_
                refine mh_goto dX4_nextWay_93 (tgt := 7) rfl ?_
                rw [nI_1]
                rw [sb.2.1] at c65
                rw [sb.2.2.1] at c72
                first
                | (exfalso; omega)
                | (rw [if_pos (by omega)] at h9; exact h9 _)
                | (rw [if_neg (by omega), if_pos (by omega)] at h9; exact h9 _)
                | (rw [if_neg (by omega), if_neg (by omega)] at h9; exact h9 _)
                | (rw [sb.2.2.2] at c81
                   first
                   | (exfalso; omega)
                   | (rw [if_pos (by omega)] at h9; exact h9 _)
                   | (rw [if_neg (by omega), if_neg (by omega)] at h9; exact h9 _))
          · skip
            refine mh_iload_3 dX4_nextWay_68 (q := 69) rfl ?_
            refine mh_istore_1 dX4_nextWay_69 (q := 70) rfl ?_
            refine mh_iload_4 dX4_nextWay_70 (q := 72) rfl ?_
            refine mh_if_eq dX4_nextWay_72 (tgt := 84) (q := 75) rfl rfl (fun c72 => ?_) (fun c72 => ?_)
            · skip
              refine mh_iconst_1 dX4_nextWay_84 (q := 85) rfl ?_
              refine mh_goto dX4_nextWay_85 (tgt := 89) rfl ?_
              refine mh_istore_2 dX4_nextWay_89 (q := 90) rfl ?_
              refine mh_iinc_3 (v := 1) dX4_nextWay_90 (q := 93) rfl (by decide) ?_
              refine mh_goto dX4_nextWay_93 (tgt := 7) rfl ?_
              rw [nI_1]
              rw [sb.2.1] at c65
              rw [sb.2.2.1] at c72
              first
              | (exfalso; omega)
              | (rw [if_pos (by omega)] at h9; exact h9 _)
              | (rw [if_neg (by omega), if_pos (by omega)] at h9; exact h9 _)
              | (rw [if_neg (by omega), if_neg (by omega)] at h9; exact h9 _)
              | (rw [sb.2.2.2] at c81
                 first
                 | (exfalso; omega)
                 | (rw [if_pos (by omega)] at h9; exact h9 _)
                 | (rw [if_neg (by omega), if_neg (by omega)] at h9; exact h9 _))
            · skip
              refine mh_iload_2 dX4_nextWay_75 (q := 76) rfl ?_
              refine mh_if_eq dX4_nextWay_76 (tgt := 88) (q := 79) rfl rfl (fun hh => False.elim (by revert hh; decide)) (fun _ => ?_)
              refine mh_iload_4 dX4_nextWay_79 (q := 81) rfl ?_
              refine mh_if_le dX4_nextWay_81 (tgt := 88) (q := 84) rfl rfl (fun c81 => ?_) (fun c81 => ?_)
              · skip
                refine mh_iconst_0 dX4_nextWay_88 (q := 89) rfl ?_
                refine mh_istore_2 dX4_nextWay_89 (q := 90) rfl ?_
                refine mh_iinc_3 (v := 1) dX4_nextWay_90 (q := 93) rfl (by decide) ?_
                refine mh_goto dX4_nextWay_93 (tgt := 7) rfl ?_
                rw [nI_1]
                rw [sb.2.1] at c65
                rw [sb.2.2.1] at c72
                first
                | (exfalso; omega)
                | (rw [if_pos (by omega)] at h9; exact h9 _)
                | (rw [if_neg (by omega), if_pos (by omega)] at h9; exact h9 _)
                | (rw [if_neg (by omega), if_neg (by omega)] at h9; exact h9 _)
                | (rw [sb.2.2.2] at c81
                   first
                   | (exfalso; omega)
                   | (rw [if_pos (by omega)] at h9; exact h9 _)
                   | (rw [if_neg (by omega), if_neg (by omega)] at h9; exact h9 _))
              · skip
                refine mh_iconst_1 dX4_nextWay_84 (q := 85) rfl ?_
                refine mh_goto dX4_nextWay_85 (tgt := 89) rfl ?_
                refine mh_istore_2 dX4_nextWay_89 (q := 90) rfl ?_
                refine mh_iinc_3 (v := 1) dX4_nextWay_90 (q := 93) rfl (by decide) ?_
                refine mh_goto dX4_nextWay_93 (tgt := 7) rfl ?_
                rw [nI_1]
                rw [sb.2.1] at c65
                rw [sb.2.2.1] at c72
                first
                | (exfalso; omega)
                | (rw [if_pos (by omega)] at h9; exact h9 _)
                | (rw [if_neg (by omega), if_pos (by omega)] at h9; exact h9 _)
                | (rw [if_neg (by omega), if_neg (by omega)] at h9; exact h9 _)
                | (rw [sb.2.2.2] at c81
                   first
                   | (exfalso; omega)
                   | (rw [if_pos (by omega)] at h9; exact h9 _)
                   | (rw [if_neg (by omega), if_neg (by omega)] at h9; exact h9 _))
        | false =>
          dsimp only [onN]
          refine mh_iload_3 dX4_nextWay_7 (q := 8) rfl ?_
          refine mh_iconst_3 dX4_nextWay_8 (q := 9) rfl ?_
          refine mh_icmp_ge dX4_nextWay_9 (tgt := 96) (q := 12) rfl rfl (fun hh => absurd hh (show ¬ (3 : Int32) ≤ nI d from nI_ge (b := 3) (by omega) (by decide))) (fun _ => ?_)
          refine mh_aload_0 dX4_nextWay_12 (q := 13) rfl ?_
          refine mh_getR fl_X4_15 dX4_nextWay_13 (q := 16) rfl (shX4_0 h4) rfl ?_
          refine mh_iload_3 dX4_nextWay_16 (q := 17) rfl ?_
          refine mh_iald dX4_nextWay_17 (q := 18) rfl (shX4_2 h4) (vp_in_nI (by omega) (by decide)) ?_
          rw [(hg.1 d (by omega)).2.2.1]
          refine mh_if_ne dX4_nextWay_18 (tgt := 24) (q := 21) rfl rfl (fun _ => ?_) (fun hh => absurd hh p0)
          refine mh_iload_1 dX4_nextWay_24 (q := 25) rfl ?_
          refine mh_bipush (v := (-9)) dX4_nextWay_25 (q := 27) rfl (by decide) ?_
          refine mh_icmp_ne dX4_nextWay_27 (tgt := 34) (q := 30) rfl rfl (fun _ => ?_) (fun hh => absurd hh n9)
          refine mh_aload_0 dX4_nextWay_34 (q := 35) rfl ?_
          refine mh_getR fl_X4_9 dX4_nextWay_35 (q := 38) rfl (shX4_0 h4) rfl ?_
          refine mh_iload_3 dX4_nextWay_38 (q := 39) rfl ?_
          refine mh_iald dX4_nextWay_39 (q := 40) rfl (shX4_1 h4) (vp_in_nI (by omega) (by decide)) ?_
          rw [(hg.1 d (by omega)).1 (by assumption)]
          refine mh_aload_0 dX4_nextWay_40 (q := 41) rfl ?_
          refine mh_getR fl_X4_15 dX4_nextWay_41 (q := 44) rfl (shX4_0 h4) rfl ?_
          refine mh_iload_1 dX4_nextWay_44 (q := 45) rfl ?_
          refine mh_iald dX4_nextWay_45 (q := 46) rfl (shX4_2 h4) (vp_in_nI (by omega) (by decide)) ?_
          rw [(hg.1 b (by omega)).2.2.1]
          refine mh_imul dX4_nextWay_46 (q := 47) rfl ?_
          refine mh_aload_0 dX4_nextWay_47 (q := 48) rfl ?_
          refine mh_getR fl_X4_9 dX4_nextWay_48 (q := 51) rfl (shX4_0 h4) rfl ?_
          refine mh_iload_1 dX4_nextWay_51 (q := 52) rfl ?_
          refine mh_iald dX4_nextWay_52 (q := 53) rfl (shX4_1 h4) (vp_in_nI (by omega) (by decide)) ?_
          rw [(hg.1 b (by omega)).1 (by assumption)]
          refine mh_aload_0 dX4_nextWay_53 (q := 54) rfl ?_
          refine mh_getR fl_X4_15 dX4_nextWay_54 (q := 57) rfl (shX4_0 h4) rfl ?_
          refine mh_iload_3 dX4_nextWay_57 (q := 58) rfl ?_
          refine mh_iald dX4_nextWay_58 (q := 59) rfl (shX4_2 h4) (vp_in_nI (by omega) (by decide)) ?_
          rw [(hg.1 d (by omega)).2.2.1]
          refine mh_imul dX4_nextWay_59 (q := 60) rfl ?_
          refine mh_isub dX4_nextWay_60 (q := 61) rfl ?_
          rw [pk_mul, pk_mul]
          have sb := mh_sb (A := g.1 d * p b) (B := g.1 b * p d) (by omega) (by omega)
          refine mh_istore_4 dX4_nextWay_61 (q := 63) rfl ?_
          refine mh_iload_4 dX4_nextWay_63 (q := 65) rfl ?_
          refine mh_if_ge dX4_nextWay_65 (tgt := 70) (q := 68) rfl rfl (fun c65 => ?_) (fun c65 => ?_)
          · skip
            refine mh_iload_4 dX4_nextWay_70 (q := 72) rfl ?_
            refine mh_if_eq dX4_nextWay_72 (tgt := 84) (q := 75) rfl rfl (fun c72 => ?_) (fun c72 => ?_)
            · skip
              refine mh_iconst_1 dX4_nextWay_84 (q := 85) rfl ?_
              refine mh_goto dX4_nextWay_85 (tgt := 89) rfl ?_
              refine mh_istore_2 dX4_nextWay_89 (q := 90) rfl ?_
              refine mh_iinc_3 (v := 1) dX4_nextWay_90 (q := 93) rfl (by decide) ?_
              refine mh_goto dX4_nextWay_93 (tgt := 7) rfl ?_
              rw [nI_1]
              rw [sb.2.1] at c65
              rw [sb.2.2.1] at c72
              first
              | (exfalso; omega)
              | (rw [if_pos (by omega)] at h9; exact h9 _)
              | (rw [if_neg (by omega), if_pos (by omega)] at h9; exact h9 _)
              | (rw [if_neg (by omega), if_neg (by omega)] at h9; exact h9 _)
              | (rw [sb.2.2.2] at c81
                 first
                 | (exfalso; omega)
                 | (rw [if_pos (by omega)] at h9; exact h9 _)
                 | (rw [if_neg (by omega), if_neg (by omega)] at h9; exact h9 _))
            · skip
              refine mh_iload_2 dX4_nextWay_75 (q := 76) rfl ?_
              refine mh_if_eq dX4_nextWay_76 (tgt := 88) (q := 79) rfl rfl (fun _ => ?_) (fun hh => False.elim (by revert hh; decide))
              refine mh_iconst_0 dX4_nextWay_88 (q := 89) rfl ?_
              refine mh_istore_2 dX4_nextWay_89 (q := 90) rfl ?_
              refine mh_iinc_3 (v := 1) dX4_nextWay_90 (q := 93) rfl (by decide) ?_
              refine mh_goto dX4_nextWay_93 (tgt := 7) rfl ?_
              rw [nI_1]
              rw [sb.2.1] at c65
              rw [sb.2.2.1] at c72
              first
              | (exfalso; omega)
              | (rw [if_pos (by omega)] at h9; exact h9 _)
              | (rw [if_neg (by omega), if_pos (by omega)] at h9; exact h9 _)
              | (rw [if_neg (by omega), if_neg (by omega)] at h9; exact h9 _)
              | (rw [sb.2.2.2] at c81
                 first
                 | (exfalso; omega)
                 | (rw [if_pos (by omega)] at h9; exact h9 _)
                 | (rw [if_neg (by omega), if_neg (by omega)] at h9; exact h9 _))
          · skip
            refine mh_iload_3 dX4_nextWay_68 (q := 69) rfl ?_
            refine mh_istore_1 dX4_nextWay_69 (q := 70) rfl ?_
            refine mh_iload_4 dX4_nextWay_70 (q := 72) rfl ?_
            refine mh_if_eq dX4_nextWay_72 (tgt := 84) (q := 75) rfl rfl (fun c72 => ?_) (fun c72 => ?_)
            · skip
              refine mh_iconst_1 dX4_nextWay_84 (q := 85) rfl ?_
              refine mh_goto dX4_nextWay_85 (tgt := 89) rfl ?_
              refine mh_istore_2 dX4_nextWay_89 (q := 90) rfl ?_
              refine mh_iinc_3 (v := 1) dX4_nextWay_90 (q := 93) rfl (by decide) ?_
              refine mh_goto dX4_nextWay_93 (tgt := 7) rfl ?_
              rw [nI_1]
              rw [sb.2.1] at c65
              rw [sb.2.2.1] at c72
              first
              | (exfalso; omega)
              | (rw [if_pos (by omega)] at h9; exact h9 _)
              | (rw [if_neg (by omega), if_pos (by omega)] at h9; exact h9 _)
              | (rw [if_neg (by omega), if_neg (by omega)] at h9; exact h9 _)
              | (rw [sb.2.2.2] at c81
                 first
                 | (exfalso; omega)
                 | (rw [if_pos (by omega)] at h9; exact h9 _)
                 | (rw [if_neg (by omega), if_neg (by omega)] at h9; exact h9 _))
            · skip
              refine mh_iload_2 dX4_nextWay_75 (q := 76) rfl ?_
              refine mh_if_eq dX4_nextWay_76 (tgt := 88) (q := 79) rfl rfl (fun _ => ?_) (fun hh => False.elim (by revert hh; decide))
              refine mh_iconst_0 dX4_nextWay_88 (q := 89) rfl ?_
              refine mh_istore_2 dX4_nextWay_89 (q := 90) rfl ?_
              refine mh_iinc_3 (v := 1) dX4_nextWay_90 (q := 93) rfl (by decide) ?_
              refine mh_goto dX4_nextWay_93 (tgt := 7) rfl ?_
              rw [nI_1]
              rw [sb.2.1] at c65
              rw [sb.2.2.1] at c72
              first
              | (exfalso; omega)
              | (rw [if_pos (by omega)] at h9; exact h9 _)
              | (rw [if_neg (by omega), if_pos (by omega)] at h9; exact h9 _)
              | (rw [if_neg (by omega), if_neg (by omega)] at h9; exact h9 _)
              | (rw [sb.2.2.2] at c81
                 first
                 | (exfalso; omega)
                 | (rw [if_pos (by omega)] at h9; exact h9 _)
                 | (rw [if_neg (by omega), if_neg (by omega)] at h9; exact h9 _))
set_option maxHeartbeats 4000000 in
set_option maxRecDepth 100000 in
theorem sp_X4_nextWay {l : Launch} {K : mhX} {Φ : mhQ} {S : List mhS} {F : mhF} {I : mhI} {J : mhJ} {P : mhP} (h4 : mhKX4 S) {p : Nat → Nat} {g : mhSg} {w h : Nat} (hg : sgC p F I g) (ok : sgOk w h p g) (hΦ : Φ (some (.int (onN (sgNw g.1 p)))) S F I J P) : mhOk l K mX4_nextWay [.ref 6] S F I J P Φ := by
  refine mhOk.of (by decide) (by decide) rfl (Nat.le_of_ble_eq_true rfl) ?_
  refine mh_bipush (v := (-9)) dX4_nextWay_0 (q := 2) rfl (by decide) ?_
  refine mh_istore_1 dX4_nextWay_2 (q := 3) rfl ?_
  refine mh_iconst_0 dX4_nextWay_3 (q := 4) rfl ?_
  refine mh_istore_2 dX4_nextWay_4 (q := 5) rfl ?_
  refine mh_iconst_0 dX4_nextWay_5 (q := 6) rfl ?_
  refine mh_istore_3 dX4_nextWay_6 (q := 7) rfl ?_
  exact lp_X4_nextWay (kc := mX4_nextWay.2.2.2.2.cells) (ks := mX4_nextWay.2.2.2.2.slots) h4 hg ok hΦ 3 0 _ rfl
