/-! walkers: the class's calls -/
def mhWC (S : List mhS) (F : mhF) (I : mhI) (P : mhP) (nw : Nat) (aW : Nat → Nat) (wk : Nat → mhWk) : Prop := nw ≤ 8 ∧ F 0 9 = nI nw ∧ ∀ v, v < nw → P 4 (nI v) = some (aW v) ∧ wcO S F I (aW v) (wk v)
/-- a tick of all in a house, of the first n walkers -/
noncomputable def wkTick (w h j : Nat) (kd : Nat → Int32) : Nat → ((Nat → mhWk) × (Nat → Int32)) → (Nat → mhWk) × (Nat → Int32)
  | 0, σ => σ
  | v + 1, σ => if ((wkTick w h j kd v σ).1 v).2.1 = j ∧ ¬ ((wkTick w h j kd v σ).1 v).2.2.1 = -9 then ((fun x => if x = v then (wkStep w h kd (wkTick w h j kd v σ).2 ((wkTick w h j kd v σ).1 v)).1 else (wkTick w h j kd v σ).1 x), (wkStep w h kd (wkTick w h j kd v σ).2 ((wkTick w h j kd v σ).1 v)).2) else wkTick w h j kd v σ
theorem wkTick_t {w h j v : Nat} {kd : Nat → Int32} {σ : (Nat → mhWk) × (Nat → Int32)} (c : ((wkTick w h j kd v σ).1 v).2.1 = j ∧ ¬ ((wkTick w h j kd v σ).1 v).2.2.1 = -9) : wkTick w h j kd (v + 1) σ = ((fun x => if x = v then (wkStep w h kd (wkTick w h j kd v σ).2 ((wkTick w h j kd v σ).1 v)).1 else (wkTick w h j kd v σ).1 x), (wkStep w h kd (wkTick w h j kd v σ).2 ((wkTick w h j kd v σ).1 v)).2) := if_pos c
theorem wkTick_f {w h j v : Nat} {kd : Nat → Int32} {σ : (Nat → mhWk) × (Nat → Int32)} (c : ¬ (((wkTick w h j kd v σ).1 v).2.1 = j ∧ ¬ ((wkTick w h j kd v σ).1 v).2.2.1 = -9)) : wkTick w h j kd (v + 1) σ = wkTick w h j kd v σ := if_neg c
def wkIn (j : Nat) (wk : Nat → mhWk) : Nat → Nat
  | 0 => 0
  | v + 1 => wkIn j wk v + (if (wk v).2.1 = j ∧ ¬ (wk v).2.2.1 = -9 then 1 else 0)
def wkOut (wk : Nat → mhWk) : Nat → Nat
  | 0 => 0
  | v + 1 => wkOut wk v + (if (wk v).2.2.1 = -9 then 1 else 0)
theorem wkIn_le {j : Nat} {wk : Nat → mhWk} : ∀ {n : Nat}, wkIn j wk n ≤ n
  | 0 => Nat.le_refl _
  | n + 1 => by have := wkIn_le (j := j) (wk := wk) (n := n); unfold wkIn; split <;> omega
theorem wkOut_le {wk : Nat → mhWk} : ∀ {n : Nat}, wkOut wk n ≤ n
  | 0 => Nat.le_refl _
  | n + 1 => by have := wkOut_le (wk := wk) (n := n); unfold wkOut; split <;> omega
noncomputable def wkRun (w h j nw : Nat) (kd : Nat → Int32) : Nat → ((Nat → mhWk) × (Nat → Int32)) → (Nat → mhWk) × (Nat → Int32)
  | 0, σ => σ
  | n + 1, σ => wkRun w h j nw kd n (wkTick w h j kd nw σ)
theorem wkTick_0 {w h j : Nat} {kd : Nat → Int32} {σ : (Nat → mhWk) × (Nat → Int32)} : ∀ {n : Nat}, wkIn j σ.1 n = 0 → wkTick w h j kd n σ = σ
  | 0, _ => rfl
  | n + 1, z => by
    unfold wkIn at z
    have ih := wkTick_0 (w := w) (h := h) (j := j) (kd := kd) (σ := σ) (n := n) (by omega)
    by_cases c : (σ.1 n).2.1 = j ∧ ¬ (σ.1 n).2.2.1 = -9
    · rw [if_pos c] at z; omega
    · rw [wkTick_f (by rw [ih]; exact c), ih]
theorem wkRun_0 {w h j nw : Nat} {kd : Nat → Int32} : ∀ {n : Nat} {σ : (Nat → mhWk) × (Nat → Int32)}, wkIn j σ.1 nw = 0 → wkRun w h j nw kd n σ = σ
  | 0, _, _ => rfl
  | n + 1, σ, z => by
    show wkRun w h j nw kd n (wkTick w h j kd nw σ) = σ
    rw [wkTick_0 z]
    exact wkRun_0 z
theorem wkTick_v {nh nw : Nat} {wd hg : Nat → Nat} {j : Nat} {kd : Nat → Int32} (g : gOk (wd j) (hg j)) {σ : (Nat → mhWk) × (Nat → Int32)} (hv : ∀ v, v < nw → vWk nh wd hg (σ.1 v)) : ∀ {n : Nat}, n ≤ nw → ∀ v, v < nw → vWk nh wd hg ((wkTick (wd j) (hg j) j kd n σ).1 v)
  | 0, _, v, h => hv v h
  | n + 1, hn, v, h => by
    have ih := wkTick_v (kd := kd) g hv (n := n) (by omega)
    by_cases c : ((wkTick (wd j) (hg j) j kd n σ).1 n).2.1 = j ∧ ¬ ((wkTick (wd j) (hg j) j kd n σ).1 n).2.2.1 = -9
    · rw [wkTick_t c]
      dsimp only
      by_cases e : v = n
      · rw [if_pos e]
        have q := wkStep_v (nh := nh) (wd := wd) (hg := hg) (kd := kd) (sm := (wkTick (wd j) (hg j) j kd n σ).2) (u := (wkTick (wd j) (hg j) j kd n σ).1 n) (by rw [c.1]; exact g) (ih n (by omega)) c.2
        rw [c.1] at q
        exact q.1
      · rw [if_neg e]; exact ih v h
    · rw [wkTick_f c]; exact ih v h
theorem wkRun_v {nh nw : Nat} {wd hg : Nat → Nat} {j : Nat} {kd : Nat → Int32} (g : gOk (wd j) (hg j)) : ∀ {n : Nat} {σ : (Nat → mhWk) × (Nat → Int32)}, (∀ v, v < nw → vWk nh wd hg (σ.1 v)) → ∀ v, v < nw → vWk nh wd hg ((wkRun (wd j) (hg j) j nw kd n σ).1 v)
  | 0, _, hv => hv
  | n + 1, σ, hv => wkRun_v g (n := n) (wkTick_v g hv (Nat.le_refl _))
/-- what walkers in the house at a may change -/
def frW (nw : Nat) (aW : Nat → Nat) (a : Nat) (F : mhF) (I : mhI) (F' : mhF) (I' : mhI) : Prop := (∀ c k, (∀ v, v < nw → c ≠ aW v) → F' c k = F c k) ∧ ∀ c y, (∀ v, v < nw → c ≠ aW v + 1) → c ≠ a + 2 → I' c y = I c y
theorem frW.rf {nw : Nat} {aW : Nat → Nat} {a : Nat} {F : mhF} {I : mhI} : frW nw aW a F I F I := ⟨fun _ _ _ => rfl, fun _ _ _ _ => rfl⟩
theorem frW.tr {nw : Nat} {aW : Nat → Nat} {a : Nat} {F F1 F2 : mhF} {I I1 I2 : mhI} (h : frW nw aW a F I F1 I1) (h2 : frW nw aW a F1 I1 F2 I2) : frW nw aW a F I F2 I2 := ⟨fun c k e => (h2.1 c k e).trans (h.1 c k e), fun c y e1 e2 => (h2.2 c y e1 e2).trans (h.2 c y e1 e2)⟩
theorem mhHs.frw {S : List mhS} {F F' : mhF} {I I' : mhI} {a w h nw : Nat} {aW : Nat → Nat} (hd : ∀ v, v < nw → aW v + 2 ≤ a ∨ a + 11 ≤ aW v) (hf : frW nw aW a F I F' I') (H : mhHs S F I a w h) : mhHs S F' I' a w h := by
  obtain ⟨h1, h2, h3, h4, h5, h6, h7, h8, h9, h10, h11⟩ := H
  have e1 : ∀ k, F' a k = F a k := fun k => hf.1 a k (fun v hv => by have := hd v hv; omega)
  have e2 : ∀ t y, t ≠ 2 → t < 11 → I' (a + t) y = I (a + t) y := fun t y h1 h2 => hf.2 _ y (fun v hv => by have := hd v hv; omega) (by omega)
  exact ⟨h1, h2, (e1 0).trans h3, (e1 1).trans h4, (e1 2).trans h5, (e1 3).trans h6, fun b hb j => by have := e2 (3 + b) j (by omega) (by omega); rw [← Nat.add_assoc] at this; exact this.trans (h7 b hb j), (e2 10 _ (by decide) (by decide)).trans h8, (e2 10 _ (by decide) (by decide)).trans h9, (e2 10 _ (by decide) (by decide)).trans h10, h11⟩
theorem mhPn.frw {F F' : mhF} {I I' : mhI} {a w h nw : Nat} {aW : Nat → Nat} {kd : Nat → Int32} (hd : ∀ v, v < nw → aW v + 2 ≤ a ∨ a + 11 ≤ aW v) (hf : frW nw aW a F I F' I') (H : mhPn I a w h kd) : mhPn I' a w h kd := fun k hk => (hf.2 _ _ (fun v hv => by have := hd v hv; omega) (by omega)).trans (H k hk)
def vWn (nw : Nat) (x : Int32) : Prop := ∃ v, v < nw ∧ x = nI v
set_option maxHeartbeats 4000000 in
set_option maxRecDepth 100000 in
theorem lp_X6_insideOf {l : Launch} {K : mhX} {kc ks : Nat} {Φ : mhQ} {S : List mhS} {F : mhF} {I : mhI} {J : mhJ} {P : mhP} (h6 : mhKX6 S) {nw : Nat} {aW : Nat → Nat} {wk : Nat → mhWk} (hW : mhWC S F I P nw aW wk) {nh j : Nat} {wd hg : Nat → Nat} (hnh : nh ≤ 3) (hj : j < nh) (hvw : ∀ v, v < nw → vWk nh wd hg (wk v)) (hΦ : Φ (some (.int (nI (wkIn j wk nw)))) S F I J P) : ∀ (m v : Nat) (o4 : Option Value), v + m = nw → mhV l K mX6_insideOf kc ks Φ 4 [some (.ref 0), some (.int (nI j)), some (.int (nI (wkIn j wk v))), some (.int (nI v)), o4] [] S F I J P := by
  have hn8 := hW.1
  intro m
  induction m with
  | zero =>
    intro v o4 hv
    obtain rfl : v = nw := by omega
    refine mh_iload_3 dX6_insideOf_4 (q := 5) rfl ?_
    refine mh_aload_0 dX6_insideOf_5 (q := 6) rfl ?_
    refine mh_getI fl_X6_58 dX6_insideOf_6 (q := 9) rfl (shX6_0 h6) rfl ?_
    rw [hW.2.1]
    refine mh_icmp_ge dX6_insideOf_9 (tgt := 60) (q := 12) rfl rfl (fun _ => ?_) (fun hh => absurd (nI_le (Nat.le_refl _) (by omega)) hh)
    refine mh_iload_2 dX6_insideOf_60 (q := 61) rfl ?_
    refine mh_ireturn dX6_insideOf_61 rfl rfl ?_
    exact hΦ
  | succ m ih =>
    intro v o4 hvm
    have hv : v < nw := by omega
    have h9 := fun o4 => ih (v + 1) o4 (by omega)
    have es : wkIn j wk (v + 1) = wkIn j wk v + (if (wk v).2.1 = j ∧ ¬ (wk v).2.2.1 = -9 then 1 else 0) := rfl
    rw [es] at h9
    have hl := (hvw v hv).2.1
    refine mh_iload_3 dX6_insideOf_4 (q := 5) rfl ?_
    refine mh_aload_0 dX6_insideOf_5 (q := 6) rfl ?_
    refine mh_getI fl_X6_58 dX6_insideOf_6 (q := 9) rfl (shX6_0 h6) rfl ?_
    rw [hW.2.1]
    refine mh_icmp_ge dX6_insideOf_9 (tgt := 60) (q := 12) rfl rfl (fun hh => absurd hh (nI_ge (by omega) (by omega))) (fun _ => ?_)
    refine mh_iload_3 dX6_insideOf_12 (q := 13) rfl ?_
    refine mh_aload_0 dX6_insideOf_13 (q := 14) rfl ?_
    refine mh_getR fl_X6_31 dX6_insideOf_14 (q := 17) rfl (shX6_0 h6) rfl ?_
    refine mh_alen (v := 8) dX6_insideOf_17 (q := 18) rfl (shX6_4 h6) (by decide) rfl ?_
    refine mh_icmp_ge dX6_insideOf_18 (tgt := 60) (q := 21) rfl rfl (fun hh => absurd hh (show ¬ (8 : Int32) ≤ nI v from nI_ge (b := 8) (by omega) (by decide))) (fun _ => ?_)
    refine mh_aload_0 dX6_insideOf_21 (q := 22) rfl ?_
    refine mh_getR fl_X6_31 dX6_insideOf_22 (q := 25) rfl (shX6_0 h6) rfl ?_
    refine mh_iload_3 dX6_insideOf_25 (q := 26) rfl ?_
    refine mh_aald dX6_insideOf_26 (q := 27) rfl (Or.inr (Or.inr (Or.inr ⟨rfl, rfl⟩))) (shX6_4 h6) (vp_in_nI (by omega) (by decide)) (hW.2.2 v hv).1 ?_
    refine mh_astore_4 dX6_insideOf_27 (q := 29) rfl ?_
    refine mh_aload_4 dX6_insideOf_29 (q := 31) rfl ?_
    refine mh_ifnullR dX6_insideOf_31 (q := 34) rfl ?_
    refine mh_aload_4 dX6_insideOf_34 (q := 36) rfl ?_
    refine mh_getI fl_X6_258 dX6_insideOf_36 (q := 39) rfl (shX5_0 (hW.2.2 v hv).2.1) rfl ?_
    rw [(hW.2.2 v hv).2.2.2.2.1]
    refine mh_iload_1 dX6_insideOf_39 (q := 40) rfl ?_
    refine mh_icmp_ne dX6_insideOf_40 (tgt := 54) (q := 43) rfl rfl (fun c40 => ?_) (fun c40 => ?_)
    · skip
      rw [nI_eq (by omega) (by omega)] at c40
      refine mh_iinc_3 (v := 1) dX6_insideOf_54 (q := 57) rfl (by decide) ?_
      refine mh_goto dX6_insideOf_57 (tgt := 4) rfl ?_
      rw [nI_1]
      rw [if_neg (fun z => c40 z.1), Nat.add_zero] at h9
      exact h9 _
    · skip
      rw [nI_eq (by omega) (by omega)] at c40
      refine mh_aload_4 dX6_insideOf_43 (q := 45) rfl ?_
      refine mh_callV0 ca_X6_insideOf_45 (shX5_0 (hW.2.2 v hv).2.1) (q := 48) rfl (by simp [Value.category]) ⟨Nat.zero_le _, Nat.zero_le _⟩ ?_
      refine sp_X5_isOut (hW.2.2 v hv).2.1 (fun co => ?_) (fun co => ?_)
      all_goals rw [(hW.2.2 v hv).2.2.2.2.2.1] at co
      · skip
        refine mh_if_ne dX6_insideOf_48 (tgt := 54) (q := 51) rfl rfl (fun _ => ?_) (fun hh => False.elim (by revert hh; decide))
        refine mh_iinc_3 (v := 1) dX6_insideOf_54 (q := 57) rfl (by decide) ?_
        refine mh_goto dX6_insideOf_57 (tgt := 4) rfl ?_
        rw [nI_1]
        rw [if_neg (fun z => z.2 co), Nat.add_zero] at h9
        exact h9 _
      · skip
        refine mh_if_ne dX6_insideOf_48 (tgt := 54) (q := 51) rfl rfl (fun hh => False.elim (by revert hh; decide)) (fun _ => ?_)
        refine mh_iinc_2 (v := 1) dX6_insideOf_51 (q := 54) rfl (by decide) ?_
        refine mh_iinc_3 (v := 1) dX6_insideOf_54 (q := 57) rfl (by decide) ?_
        refine mh_goto dX6_insideOf_57 (tgt := 4) rfl ?_
        rw [nI_1, nI_1]
        rw [if_pos ⟨c40, co⟩] at h9
        exact h9 _
set_option maxHeartbeats 4000000 in
set_option maxRecDepth 100000 in
theorem sp_X6_insideOf {l : Launch} {K : mhX} {Φ : mhQ} {S : List mhS} {F : mhF} {I : mhI} {J : mhJ} {P : mhP} (h6 : mhKX6 S) {nw : Nat} {aW : Nat → Nat} {wk : Nat → mhWk} (hW : mhWC S F I P nw aW wk) {nh j : Nat} {wd hg : Nat → Nat} (hnh : nh ≤ 3) (hj : j < nh) (hvw : ∀ v, v < nw → vWk nh wd hg (wk v)) (hΦ : Φ (some (.int (nI (wkIn j wk nw)))) S F I J P) : mhOk l K mX6_insideOf [.ref 0, .int (nI j)] S F I J P Φ := by
  refine mhOk.of (by decide) (by decide) rfl (Nat.le_of_ble_eq_true rfl) ?_
  refine mh_iconst_0 dX6_insideOf_0 (q := 1) rfl ?_
  refine mh_istore_2 dX6_insideOf_1 (q := 2) rfl ?_
  refine mh_iconst_0 dX6_insideOf_2 (q := 3) rfl ?_
  refine mh_istore_3 dX6_insideOf_3 (q := 4) rfl ?_
  exact lp_X6_insideOf (kc := mX6_insideOf.2.2.2.2.cells) (ks := mX6_insideOf.2.2.2.2.slots) h6 hW hnh hj hvw hΦ nw 0 _ (Nat.zero_add _)
set_option maxHeartbeats 4000000 in
set_option maxRecDepth 100000 in
theorem lp_X6_outs {l : Launch} {K : mhX} {kc ks : Nat} {Φ : mhQ} {S : List mhS} {F : mhF} {I : mhI} {J : mhJ} {P : mhP} (h6 : mhKX6 S) {nw : Nat} {aW : Nat → Nat} {wk : Nat → mhWk} (hW : mhWC S F I P nw aW wk) (hΦ : Φ (some (.int (nI (wkOut wk nw)))) S F I J P) : ∀ (m v : Nat) (o3 : Option Value), v + m = nw → mhV l K mX6_outs kc ks Φ 4 [some (.ref 0), some (.int (nI (wkOut wk v))), some (.int (nI v)), o3] [] S F I J P := by
  have hn8 := hW.1
  intro m
  induction m with
  | zero =>
    intro v o3 hv
    obtain rfl : v = nw := by omega
    refine mh_iload_2 dX6_outs_4 (q := 5) rfl ?_
    refine mh_aload_0 dX6_outs_5 (q := 6) rfl ?_
    refine mh_getI fl_X6_58 dX6_outs_6 (q := 9) rfl (shX6_0 h6) rfl ?_
    rw [hW.2.1]
    refine mh_icmp_ge dX6_outs_9 (tgt := 48) (q := 12) rfl rfl (fun _ => ?_) (fun hh => absurd (nI_le (Nat.le_refl _) (by omega)) hh)
    refine mh_iload_1 dX6_outs_48 (q := 49) rfl ?_
    refine mh_ireturn dX6_outs_49 rfl rfl ?_
    exact hΦ
  | succ m ih =>
    intro v o3 hvm
    have hv : v < nw := by omega
    have h9 := fun o3 => ih (v + 1) o3 (by omega)
    have es : wkOut wk (v + 1) = wkOut wk v + (if (wk v).2.2.1 = -9 then 1 else 0) := rfl
    rw [es] at h9
    refine mh_iload_2 dX6_outs_4 (q := 5) rfl ?_
    refine mh_aload_0 dX6_outs_5 (q := 6) rfl ?_
    refine mh_getI fl_X6_58 dX6_outs_6 (q := 9) rfl (shX6_0 h6) rfl ?_
    rw [hW.2.1]
    refine mh_icmp_ge dX6_outs_9 (tgt := 48) (q := 12) rfl rfl (fun hh => absurd hh (nI_ge (by omega) (by omega))) (fun _ => ?_)
    refine mh_iload_2 dX6_outs_12 (q := 13) rfl ?_
    refine mh_aload_0 dX6_outs_13 (q := 14) rfl ?_
    refine mh_getR fl_X6_31 dX6_outs_14 (q := 17) rfl (shX6_0 h6) rfl ?_
    refine mh_alen (v := 8) dX6_outs_17 (q := 18) rfl (shX6_4 h6) (by decide) rfl ?_
    refine mh_icmp_ge dX6_outs_18 (tgt := 48) (q := 21) rfl rfl (fun hh => absurd hh (show ¬ (8 : Int32) ≤ nI v from nI_ge (b := 8) (by omega) (by decide))) (fun _ => ?_)
    refine mh_aload_0 dX6_outs_21 (q := 22) rfl ?_
    refine mh_getR fl_X6_31 dX6_outs_22 (q := 25) rfl (shX6_0 h6) rfl ?_
    refine mh_iload_2 dX6_outs_25 (q := 26) rfl ?_
    refine mh_aald dX6_outs_26 (q := 27) rfl (Or.inr (Or.inr (Or.inr ⟨rfl, rfl⟩))) (shX6_4 h6) (vp_in_nI (by omega) (by decide)) (hW.2.2 v hv).1 ?_
    refine mh_astore_3 dX6_outs_27 (q := 28) rfl ?_
    refine mh_aload_3 dX6_outs_28 (q := 29) rfl ?_
    refine mh_ifnullR dX6_outs_29 (q := 32) rfl ?_
    refine mh_aload_3 dX6_outs_32 (q := 33) rfl ?_
    refine mh_callV0 ca_X6_outs_33 (shX5_0 (hW.2.2 v hv).2.1) (q := 36) rfl (by simp [Value.category]) ⟨Nat.zero_le _, Nat.zero_le _⟩ ?_
    refine sp_X5_isOut (hW.2.2 v hv).2.1 (fun co => ?_) (fun co => ?_)
    all_goals rw [(hW.2.2 v hv).2.2.2.2.2.1] at co
    · skip
      refine mh_if_eq dX6_outs_36 (tgt := 42) (q := 39) rfl rfl (fun hh => False.elim (by revert hh; decide)) (fun _ => ?_)
      refine mh_iinc_1 (v := 1) dX6_outs_39 (q := 42) rfl (by decide) ?_
      refine mh_iinc_2 (v := 1) dX6_outs_42 (q := 45) rfl (by decide) ?_
      refine mh_goto dX6_outs_45 (tgt := 4) rfl ?_
      rw [nI_1, nI_1]
      rw [if_pos co] at h9
      exact h9 _
    · skip
      refine mh_if_eq dX6_outs_36 (tgt := 42) (q := 39) rfl rfl (fun _ => ?_) (fun hh => False.elim (by revert hh; decide))
      refine mh_iinc_2 (v := 1) dX6_outs_42 (q := 45) rfl (by decide) ?_
      refine mh_goto dX6_outs_45 (tgt := 4) rfl ?_
      rw [nI_1]
      rw [if_neg co, Nat.add_zero] at h9
      exact h9 _
set_option maxHeartbeats 4000000 in
set_option maxRecDepth 100000 in
theorem sp_X6_outs {l : Launch} {K : mhX} {Φ : mhQ} {S : List mhS} {F : mhF} {I : mhI} {J : mhJ} {P : mhP} (h6 : mhKX6 S) {nw : Nat} {aW : Nat → Nat} {wk : Nat → mhWk} (hW : mhWC S F I P nw aW wk) (hΦ : Φ (some (.int (nI (wkOut wk nw)))) S F I J P) : mhOk l K mX6_outs [.ref 0] S F I J P Φ := by
  refine mhOk.of (by decide) (by decide) rfl (Nat.le_of_ble_eq_true rfl) ?_
  refine mh_iconst_0 dX6_outs_0 (q := 1) rfl ?_
  refine mh_istore_1 dX6_outs_1 (q := 2) rfl ?_
  refine mh_iconst_0 dX6_outs_2 (q := 3) rfl ?_
  refine mh_istore_2 dX6_outs_3 (q := 4) rfl ?_
  exact lp_X6_outs (kc := mX6_outs.2.2.2.2.cells) (ks := mX6_outs.2.2.2.2.slots) h6 hW hΦ nw 0 _ (Nat.zero_add _)
set_option maxHeartbeats 4000000 in
set_option maxRecDepth 100000 in
theorem lp_X6_tickAll {l : Launch} {K : mhX} {kc ks : Nat} {Φ : mhQ} {S : List mhS} {J : mhJ} {P : mhP} (h6 : mhKX6 S) {nw nh j a w h : Nat} {aW wd hg : Nat → Nat} {kd : Nat → Int32} {σ : (Nat → mhWk) × (Nat → Int32)} (hnh : nh ≤ 3) (hj : j < nh) (ew : wd j = w) (eh : hg j = h) (g : gOk w h) (hv0 : ∀ v, v < nw → vWk nh wd hg (σ.1 v)) (hD : ∀ v v2, v < nw → v2 < nw → v ≠ v2 → aW v + 2 ≤ aW v2 ∨ aW v2 + 2 ≤ aW v) (hDa : ∀ v, v < nw → aW v + 2 ≤ a ∨ a + 11 ≤ aW v) : ∀ (m v : Nat) (F : mhF) (I : mhI) (o4 : Option Value), v + m = nw → mhHs S F I a w h → mhPn I a w h kd → mhWC S F I P nw aW (wkTick w h j kd v σ).1 → smO I a w h (wkTick w h j kd v σ).2 → (∀ (F2 : mhF) (I2 : mhI), mhWC S F2 I2 P nw aW (wkTick w h j kd nw σ).1 → smO I2 a w h (wkTick w h j kd nw σ).2 → frW nw aW a F I F2 I2 → Φ none S F2 I2 J P) → mhV l K mX6_tickAll kc ks Φ 2 [some (.ref 0), some (.ref a), some (.int (nI j)), some (.int (nI v)), o4] [] S F I J P := by
  intro m
  induction m with
  | zero =>
    intro v F I o4 hv hH hp hW hs hΦ
    have hn8 := hW.1
    obtain rfl : v = nw := by omega
    refine mh_iload_3 dX6_tickAll_2 (q := 3) rfl ?_
    refine mh_aload_0 dX6_tickAll_3 (q := 4) rfl ?_
    refine mh_getI fl_X6_58 dX6_tickAll_4 (q := 7) rfl (shX6_0 h6) rfl ?_
    rw [hW.2.1]
    refine mh_icmp_ge dX6_tickAll_7 (tgt := 61) (q := 10) rfl rfl (fun _ => ?_) (fun hh => absurd (nI_le (Nat.le_refl _) (by omega)) hh)
    refine mh_return dX6_tickAll_61 rfl ?_
    exact hΦ F I hW hs frW.rf
  | succ m ih =>
    intro v F I o4 hvm hH hp hW hs hΦ
    have hn8 := hW.1
    have hv : v < nw := by omega
    have h9 := ih (v + 1)
    have hvv := wkTick_v (nh := nh) (wd := wd) (hg := hg) (j := j) (kd := kd) (by rw [ew, eh]; exact g) hv0 (n := v) (by omega) v hv
    rw [ew, eh] at hvv
    have hl := hvv.2.1
    refine mh_iload_3 dX6_tickAll_2 (q := 3) rfl ?_
    refine mh_aload_0 dX6_tickAll_3 (q := 4) rfl ?_
    refine mh_getI fl_X6_58 dX6_tickAll_4 (q := 7) rfl (shX6_0 h6) rfl ?_
    rw [hW.2.1]
    refine mh_icmp_ge dX6_tickAll_7 (tgt := 61) (q := 10) rfl rfl (fun hh => absurd hh (nI_ge (by omega) (by omega))) (fun _ => ?_)
    refine mh_iload_3 dX6_tickAll_10 (q := 11) rfl ?_
    refine mh_aload_0 dX6_tickAll_11 (q := 12) rfl ?_
    refine mh_getR fl_X6_31 dX6_tickAll_12 (q := 15) rfl (shX6_0 h6) rfl ?_
    refine mh_alen (v := 8) dX6_tickAll_15 (q := 16) rfl (shX6_4 h6) (by decide) rfl ?_
    refine mh_icmp_ge dX6_tickAll_16 (tgt := 61) (q := 19) rfl rfl (fun hh => absurd hh (show ¬ (8 : Int32) ≤ nI v from nI_ge (b := 8) (by omega) (by decide))) (fun _ => ?_)
    refine mh_aload_0 dX6_tickAll_19 (q := 20) rfl ?_
    refine mh_getR fl_X6_31 dX6_tickAll_20 (q := 23) rfl (shX6_0 h6) rfl ?_
    refine mh_iload_3 dX6_tickAll_23 (q := 24) rfl ?_
    refine mh_aald dX6_tickAll_24 (q := 25) rfl (Or.inr (Or.inr (Or.inr ⟨rfl, rfl⟩))) (shX6_4 h6) (vp_in_nI (by omega) (by decide)) (hW.2.2 v hv).1 ?_
    refine mh_astore_4 dX6_tickAll_25 (q := 27) rfl ?_
    refine mh_aload_4 dX6_tickAll_27 (q := 29) rfl ?_
    refine mh_ifnullR dX6_tickAll_29 (q := 32) rfl ?_
    refine mh_aload_4 dX6_tickAll_32 (q := 34) rfl ?_
    refine mh_getI fl_X6_258 dX6_tickAll_34 (q := 37) rfl (shX5_0 (hW.2.2 v hv).2.1) rfl ?_
    rw [(hW.2.2 v hv).2.2.2.2.1]
    refine mh_iload_2 dX6_tickAll_37 (q := 38) rfl ?_
    refine mh_icmp_ne dX6_tickAll_38 (tgt := 55) (q := 41) rfl rfl (fun c38 => ?_) (fun c38 => ?_)
    · skip
      rw [nI_eq (by omega) (by omega)] at c38
      refine mh_iinc_3 (v := 1) dX6_tickAll_55 (q := 58) rfl (by decide) ?_
      refine mh_goto dX6_tickAll_58 (tgt := 2) rfl ?_
      rw [nI_1]
      rw [wkTick_f (fun z => c38 z.1)] at h9
      exact h9 F I _ (by omega) hH hp hW hs hΦ
    · skip
      rw [nI_eq (by omega) (by omega)] at c38
      refine mh_aload_4 dX6_tickAll_41 (q := 43) rfl ?_
      refine mh_callV0 ca_X6_tickAll_43 (shX5_0 (hW.2.2 v hv).2.1) (q := 46) rfl (by simp [Value.category]) ⟨Nat.zero_le _, Nat.zero_le _⟩ ?_
      refine sp_X5_isOut (hW.2.2 v hv).2.1 (fun co => ?_) (fun co => ?_)
      all_goals rw [(hW.2.2 v hv).2.2.2.2.2.1] at co
      · skip
        refine mh_if_ne dX6_tickAll_46 (tgt := 55) (q := 49) rfl rfl (fun _ => ?_) (fun hh => False.elim (by revert hh; decide))
        refine mh_iinc_3 (v := 1) dX6_tickAll_55 (q := 58) rfl (by decide) ?_
        refine mh_goto dX6_tickAll_58 (tgt := 2) rfl ?_
        rw [nI_1]
        rw [wkTick_f (fun z => z.2 co)] at h9
        exact h9 F I _ (by omega) hH hp hW hs hΦ
      · skip
        refine mh_if_ne dX6_tickAll_46 (tgt := 55) (q := 49) rfl rfl (fun hh => False.elim (by revert hh; decide)) (fun _ => ?_)
        refine mh_aload_4 dX6_tickAll_49 (q := 51) rfl ?_
        refine mh_aload_1 dX6_tickAll_51 (q := 52) rfl ?_
        refine mh_callV1 ca_X6_tickAll_52 (shX5_0 (hW.2.2 v hv).2.1) (q := 55) rfl (by simp [Value.category]) ⟨Nat.zero_le _, Nat.zero_le _⟩ ?_
        obtain ⟨r, hr, er⟩ := hvv.2.2.2.resolve_left co
        rw [c38, ew, eh] at hr
        refine sp_X5_goOn hH hp hs (hDa v hv) (hW.2.2 v hv).2 hvv.1 hr er hvv.2.2.1 (fun F2 I2 w2 s2 f2 i2 => ?_)
        refine mh_iinc_3 (v := 1) dX6_tickAll_55 (q := 58) rfl (by decide) ?_
        refine mh_goto dX6_tickAll_58 (tgt := 2) rfl ?_
        rw [nI_1]
        rw [wkTick_t ⟨c38, co⟩] at h9
        have hfw : frW nw aW a F I F2 I2 := ⟨fun c k e => f2 c k (e v hv), fun c y e1 e2 => i2 c y (e1 v hv) e2⟩
        refine h9 F2 I2 _ (by omega) (hH.frw hDa hfw) (hp.frw hDa hfw) ⟨hn8, (f2 0 9 (by have := (hW.2.2 v hv).2.2.1; omega)).trans hW.2.1, fun x hx => ⟨(hW.2.2 x hx).1, ?_⟩⟩ s2 (fun F3 I3 e1 e2 e3 => hΦ F3 I3 e1 e2 (hfw.tr e3))
        dsimp only
        by_cases e : x = v
        · rw [if_pos e, e]; exact w2
        · rw [if_neg e]
          obtain ⟨z1, z2, z3, z4, z5, z6, z7, z8, z9, z10⟩ := (hW.2.2 x hx).2
          have hd := hD x v hx hv e
          have hda := hDa x hx
          exact ⟨z1, z2, (f2 _ _ (by omega)).trans z3, (f2 _ _ (by omega)).trans z4, (f2 _ _ (by omega)).trans z5, (f2 _ _ (by omega)).trans z6, (f2 _ _ (by omega)).trans z7, (f2 _ _ (by omega)).trans z8, (f2 _ _ (by omega)).trans z9, fun k hk => (i2 _ _ (by omega) (by omega)).trans (z10 k hk)⟩
set_option maxHeartbeats 4000000 in
set_option maxRecDepth 100000 in
theorem sp_X6_tickAll {l : Launch} {K : mhX} {Φ : mhQ} {S : List mhS} {F : mhF} {I : mhI} {J : mhJ} {P : mhP} (h6 : mhKX6 S) {nw nh j a w h : Nat} {aW wd hg : Nat → Nat} {kd : Nat → Int32} {σ : (Nat → mhWk) × (Nat → Int32)} (hnh : nh ≤ 3) (hj : j < nh) (ew : wd j = w) (eh : hg j = h) (g : gOk w h) (hv0 : ∀ v, v < nw → vWk nh wd hg (σ.1 v)) (hD : ∀ v v2, v < nw → v2 < nw → v ≠ v2 → aW v + 2 ≤ aW v2 ∨ aW v2 + 2 ≤ aW v) (hDa : ∀ v, v < nw → aW v + 2 ≤ a ∨ a + 11 ≤ aW v) (hH : mhHs S F I a w h) (hp : mhPn I a w h kd) (hW : mhWC S F I P nw aW σ.1) (hs : smO I a w h σ.2) (hΦ : ∀ (F2 : mhF) (I2 : mhI), mhWC S F2 I2 P nw aW (wkTick w h j kd nw σ).1 → smO I2 a w h (wkTick w h j kd nw σ).2 → frW nw aW a F I F2 I2 → Φ none S F2 I2 J P) : mhOk l K mX6_tickAll [.ref 0, .ref a, .int (nI j)] S F I J P Φ := by
  refine mhOk.of (by decide) (by decide) rfl (Nat.le_of_ble_eq_true rfl) ?_
  refine mh_iconst_0 dX6_tickAll_0 (q := 1) rfl ?_
  refine mh_istore_3 dX6_tickAll_1 (q := 2) rfl ?_
  exact lp_X6_tickAll (kc := mX6_tickAll.2.2.2.2.cells) (ks := mX6_tickAll.2.2.2.2.slots) h6 hnh hj ew eh g hv0 hD hDa nw 0 F I _ (Nat.zero_add _) hH hp hW hs hΦ
set_option maxHeartbeats 4000000 in
set_option maxRecDepth 100000 in
theorem lp_X6_ticks {l : Launch} {K : mhX} {kc ks : Nat} {Φ : mhQ} {S : List mhS} {J : mhJ} {P : mhP} (h6 : mhKX6 S) {nw nh j a w h n : Nat} {aW wd hg : Nat → Nat} {kd : Nat → Int32} (hn2 : n ≤ 200) (hnh : nh ≤ 3) (hj : j < nh) (ew : wd j = w) (eh : hg j = h) (g : gOk w h) (hD : ∀ v v2, v < nw → v2 < nw → v ≠ v2 → aW v + 2 ≤ aW v2 ∨ aW v2 + 2 ≤ aW v) (hDa : ∀ v, v < nw → aW v + 2 ≤ a ∨ a + 11 ≤ aW v) : ∀ (m t : Nat) (F : mhF) (I : mhI) (σ : (Nat → mhWk) × (Nat → Int32)), t + m = n → mhHs S F I a w h → mhPn I a w h kd → mhWC S F I P nw aW σ.1 → smO I a w h σ.2 → (∀ v, v < nw → vWk nh wd hg (σ.1 v)) → (∀ (F2 : mhF) (I2 : mhI), mhWC S F2 I2 P nw aW (wkRun w h j nw kd m σ).1 → smO I2 a w h (wkRun w h j nw kd m σ).2 → frW nw aW a F I F2 I2 → Φ (some (.int (nI (wkIn j (wkRun w h j nw kd m σ).1 nw)))) S F2 I2 J P) → mhV l K mX6_ticks kc ks Φ 36 [some (.ref 0), some (.int (nI j)), some (.int (nI n)), some (.ref a), some (.int (nI (wkIn j σ.1 nw))), some (.int (nI t))] [] S F I J P := by
  intro m
  induction m with
  | zero =>
    intro t F I σ ht hH hp hW hs hv hΦ
    obtain rfl : t = n := by omega
    refine mh_iload_5 dX6_ticks_36 (q := 38) rfl ?_
    refine mh_iload_2 dX6_ticks_38 (q := 39) rfl ?_
    refine mh_icmp_ge dX6_ticks_39 (tgt := 66) (q := 42) rfl rfl (fun _ => ?_) (fun hh => absurd (nI_le (Nat.le_refl _) (by omega)) hh)
    refine mh_iload_4 dX6_ticks_66 (q := 68) rfl ?_
    refine mh_ireturn dX6_ticks_68 rfl rfl ?_
    exact hΦ F I hW hs frW.rf
  | succ m ih =>
    intro t F I σ ht hH hp hW hs hv hΦ
    have hn8 := hW.1
    have hil := wkIn_le (j := j) (wk := σ.1) (n := nw)
    refine mh_iload_5 dX6_ticks_36 (q := 38) rfl ?_
    refine mh_iload_2 dX6_ticks_38 (q := 39) rfl ?_
    refine mh_icmp_ge dX6_ticks_39 (tgt := 66) (q := 42) rfl rfl (fun hh => absurd hh (nI_ge (by omega) (by omega))) (fun _ => ?_)
    refine mh_iload_4 dX6_ticks_42 (q := 44) rfl ?_
    refine mh_if_le dX6_ticks_44 (tgt := 66) (q := 47) rfl rfl (fun c44 => ?_) (fun c44 => ?_)
    · skip
      refine mh_iload_4 dX6_ticks_66 (q := 68) rfl ?_
      refine mh_ireturn dX6_ticks_68 rfl rfl ?_
      have e0 : wkIn j σ.1 nw = 0 := by
        rw [show (0 : Int32) = nI 0 from rfl, nI_leI (by omega) (by decide)] at c44
        omega
      have hx := hΦ F I (by rw [wkRun_0 e0]; exact hW) (by rw [wkRun_0 e0]; exact hs) frW.rf
      rw [wkRun_0 e0] at hx
      exact hx
    · skip
      refine mh_aload_0 dX6_ticks_47 (q := 48) rfl ?_
      refine mh_aload_3 dX6_ticks_48 (q := 49) rfl ?_
      refine mh_iload_1 dX6_ticks_49 (q := 50) rfl ?_
      refine mh_callV2 ca_X6_ticks_50 (shX6_0 h6) (q := 53) rfl (by simp [Value.category]) ⟨Nat.zero_le _, Nat.zero_le _⟩ ?_
      refine sp_X6_tickAll h6 hnh hj ew eh g hv hD hDa hH hp hW hs (fun F2 I2 W2 s2 g2 => ?_)
      refine mh_aload_0 dX6_ticks_53 (q := 54) rfl ?_
      refine mh_iload_1 dX6_ticks_54 (q := 55) rfl ?_
      refine mh_callV1 ca_X6_ticks_55 (shX6_0 h6) (q := 58) rfl (by simp [Value.category]) ⟨Nat.zero_le _, Nat.zero_le _⟩ ?_
      have hv2 : ∀ v, v < nw → vWk nh wd hg ((wkTick w h j kd nw σ).1 v) := fun v hx => by
        have := wkTick_v (nh := nh) (wd := wd) (hg := hg) (j := j) (kd := kd) (by rw [ew, eh]; exact g) hv (Nat.le_refl nw) v hx
        rw [ew, eh] at this
        exact this
      refine sp_X6_insideOf h6 W2 hnh hj hv2 ?_
      refine mh_istore_4 dX6_ticks_58 (q := 60) rfl ?_
      refine mh_iinc_5 (v := 1) dX6_ticks_60 (q := 63) rfl (by decide) ?_
      refine mh_goto dX6_ticks_63 (tgt := 36) rfl ?_
      rw [nI_1]
      exact ih (t + 1) F2 I2 _ (by omega) (hH.frw hDa g2) (hp.frw hDa g2) W2 s2 hv2 (fun F3 I3 e1 e2 e3 => hΦ F3 I3 e1 e2 (g2.tr e3))
theorem mh_t200 {n : Int32} (h : 0 ≤ n ∧ n ≤ 200) : ∃ k, k ≤ 200 ∧ n = nI k := by
  obtain ⟨k, hk, e⟩ := mh_of2 (n := 200) (M := 200) rfl h.1 h.2
  exact ⟨k, by omega, e⟩
set_option maxHeartbeats 4000000 in
set_option maxRecDepth 100000 in
theorem sp_X6_ticks {l : Launch} {K : mhX} {Φ : mhQ} {S : List mhS} {F : mhF} {I : mhI} {J : mhJ} {P : mhP} {nh : Nat} {wd hg aH : Nat → Nat} (hC : mhHC S F I P nh wd hg aH) {kd : Nat → Nat → Int32} (hK : ∀ j, j < nh → mhPn I (aH j) (wd j) (hg j) (kd j)) {nw : Nat} {aW : Nat → Nat} {wk : Nat → mhWk} (hW : mhWC S F I P nw aW wk) {sm : Nat → Nat → Int32} (hS : ∀ j, j < nh → smO I (aH j) (wd j) (hg j) (sm j)) (hvw : ∀ v, v < nw → vWk nh wd hg (wk v)) (hD : ∀ v v2, v < nw → v2 < nw → v ≠ v2 → aW v + 2 ≤ aW v2 ∨ aW v2 + 2 ≤ aW v) (hDa : ∀ v j, v < nw → j < nh → aW v + 2 ≤ aH j ∨ aH j + 11 ≤ aW v) {x n : Int32} (hn : ¬ vHs nh x → Φ (some (.int (-1))) S F I J P) (hb : vHs nh x → ¬ (0 ≤ n ∧ n ≤ 200) → Φ (some (.int (-2))) S F I J P) (ht : ∀ j m, j < nh → x = nI j → n = nI m → m ≤ 200 → (0 ≤ n ∧ n ≤ 200) → ∀ (F2 : mhF) (I2 : mhI), mhWC S F2 I2 P nw aW (wkRun (wd j) (hg j) j nw (kd j) m (wk, sm j)).1 → smO I2 (aH j) (wd j) (hg j) (wkRun (wd j) (hg j) j nw (kd j) m (wk, sm j)).2 → frW nw aW (aH j) F I F2 I2 → Φ (some (.int (nI (wkIn j (wkRun (wd j) (hg j) j nw (kd j) m (wk, sm j)).1 nw)))) S F2 I2 J P) : mhOk l K mX6_ticks [.ref 0, .int x, .int n] S F I J P Φ := by
  refine mhOk.of (by decide) (by decide) rfl (Nat.le_of_ble_eq_true rfl) ?_
  refine mh_aload_0 dX6_ticks_0 (q := 1) rfl ?_
  refine mh_iload_1 dX6_ticks_1 (q := 2) rfl ?_
  refine mh_callV1 ca_X6_ticks_2 (shX6_0 hC.1) (q := 5) rfl (by simp [Value.category]) ⟨Nat.zero_le _, Nat.zero_le _⟩ ?_
  refine sp_X6_houseAt hC (fun hk => ?_) (fun j hj ej => ?_)
  · skip
    refine mh_astoreN_3 dX6_ticks_5 (q := 6) rfl ?_
    refine mh_aloadN_3 dX6_ticks_6 (q := 7) rfl ?_
    refine mh_ifnonnullN dX6_ticks_7 (q := 10) rfl ?_
    refine mh_iconst_m1 dX6_ticks_10 (q := 11) rfl ?_
    refine mh_ireturn dX6_ticks_11 rfl rfl ?_
    exact hn hk
  · skip
    subst ej
    refine mh_astore_3 dX6_ticks_5 (q := 6) rfl ?_
    refine mh_aload_3 dX6_ticks_6 (q := 7) rfl ?_
    refine mh_ifnonnullR dX6_ticks_7 (tgt := 12) rfl ?_
    refine mh_iload_2 dX6_ticks_12 (q := 13) rfl ?_
    refine mh_iconst_0 dX6_ticks_13 (q := 14) rfl ?_
    refine mh_sipush (v := 200) dX6_ticks_14 (q := 17) rfl (by decide) ?_
    refine mh_callS3 ca_X6_ticks_17 (q := 20) rfl (by simp [Value.category]) ⟨Nat.zero_le _, Nat.zero_le _⟩ ?_
    refine sp_X6_within (fun cn => ?_) (fun cn => ?_)
    · skip
      refine mh_if_ne dX6_ticks_20 (tgt := 26) (q := 23) rfl rfl (fun _ => ?_) (fun hh => False.elim (by revert hh; decide))
      refine mh_aload_0 dX6_ticks_26 (q := 27) rfl ?_
      refine mh_iload_1 dX6_ticks_27 (q := 28) rfl ?_
      refine mh_callV1 ca_X6_ticks_28 (shX6_0 hC.1) (q := 31) rfl (by simp [Value.category]) ⟨Nat.zero_le _, Nat.zero_le _⟩ ?_
      refine sp_X6_insideOf hC.1 hW hC.2.1 hj hvw ?_
      refine mh_istore_4 dX6_ticks_31 (q := 33) rfl ?_
      refine mh_iconst_0 dX6_ticks_33 (q := 34) rfl ?_
      refine mh_istore_5 dX6_ticks_34 (q := 36) rfl ?_
      obtain ⟨m, hm, rfl⟩ := mh_t200 cn
      exact lp_X6_ticks (kc := mX6_ticks.2.2.2.2.cells) (ks := mX6_ticks.2.2.2.2.slots) hC.1 hm hC.2.1 hj rfl rfl (hC.2.2.2 j hj).2.2.1 hD (fun v hv => hDa v j hv hj) m 0 F I (wk, sm j) (Nat.zero_add _) (hC.2.2.2 j hj).2 (hK j hj) hW (hS j hj) hvw (fun F2 I2 e1 e2 e3 => ht j m hj rfl rfl hm cn F2 I2 e1 e2 e3)
    · skip
      refine mh_if_ne dX6_ticks_20 (tgt := 26) (q := 23) rfl rfl (fun hh => False.elim (by revert hh; decide)) (fun _ => ?_)
      refine mh_bipush (v := (-2)) dX6_ticks_23 (q := 25) rfl (by decide) ?_
      refine mh_ireturn dX6_ticks_25 rfl rfl ?_
      exact hb ⟨j, hj, rfl⟩ cn
set_option maxHeartbeats 4000000 in
set_option maxRecDepth 100000 in
theorem sp_X6_walkerAt {l : Launch} {K : mhX} {Φ : mhQ} {S : List mhS} {F : mhF} {I : mhI} {J : mhJ} {P : mhP} (h6 : mhKX6 S) {nw : Nat} {aW : Nat → Nat} {wk : Nat → mhWk} (hW : mhWC S F I P nw aW wk) {x : Int32} (hn : ¬ vWn nw x → Φ (some .null) S F I J P) (ht : ∀ v, v < nw → x = nI v → Φ (some (.ref (aW v))) S F I J P) : mhOk l K mX6_walkerAt [.ref 0, .int x] S F I J P Φ := by
  refine mhOk.of (by decide) (by decide) rfl (Nat.le_of_ble_eq_true rfl) ?_
  refine mh_iload_1 dX6_walkerAt_0 (q := 1) rfl ?_
  refine mh_if_lt dX6_walkerAt_1 (tgt := 30) (q := 4) rfl rfl (fun c1 => ?_) (fun c1 => ?_)
  · skip
    refine mh_aconst_null dX6_walkerAt_30 (q := 31) rfl ?_
    refine mh_areturnN dX6_walkerAt_31 rfl ?_
    refine hn (fun e => ?_)
    have e2 := (mh_lt (n := nw) (by have := hW.1; omega)).mpr e
    have e3 := hW.1
    first | (exact absurd e2.1 (Int32.not_le.mpr c1)) | (exact absurd e2.2 (Int32.not_lt.mpr c9)) | (obtain ⟨j, hj, rfl⟩ := e; exact absurd c18 (nI_ge (b := 8) (by omega) (by decide)))
  · skip
    refine mh_iload_1 dX6_walkerAt_4 (q := 5) rfl ?_
    refine mh_aload_0 dX6_walkerAt_5 (q := 6) rfl ?_
    refine mh_getI fl_X6_58 dX6_walkerAt_6 (q := 9) rfl (shX6_0 h6) rfl ?_
    rw [hW.2.1]
    refine mh_icmp_ge dX6_walkerAt_9 (tgt := 30) (q := 12) rfl rfl (fun c9 => ?_) (fun c9 => ?_)
    · skip
      refine mh_aconst_null dX6_walkerAt_30 (q := 31) rfl ?_
      refine mh_areturnN dX6_walkerAt_31 rfl ?_
      refine hn (fun e => ?_)
      have e2 := (mh_lt (n := nw) (by have := hW.1; omega)).mpr e
      have e3 := hW.1
      first | (exact absurd e2.1 (Int32.not_le.mpr c1)) | (exact absurd e2.2 (Int32.not_lt.mpr c9)) | (obtain ⟨j, hj, rfl⟩ := e; exact absurd c18 (nI_ge (b := 8) (by omega) (by decide)))
    · skip
      refine mh_iload_1 dX6_walkerAt_12 (q := 13) rfl ?_
      refine mh_aload_0 dX6_walkerAt_13 (q := 14) rfl ?_
      refine mh_getR fl_X6_31 dX6_walkerAt_14 (q := 17) rfl (shX6_0 h6) rfl ?_
      refine mh_alen (v := 8) dX6_walkerAt_17 (q := 18) rfl (shX6_4 h6) (by decide) rfl ?_
      refine mh_icmp_ge dX6_walkerAt_18 (tgt := 30) (q := 21) rfl rfl (fun c18 => ?_) (fun c18 => ?_)
      · skip
        refine mh_aconst_null dX6_walkerAt_30 (q := 31) rfl ?_
        refine mh_areturnN dX6_walkerAt_31 rfl ?_
        refine hn (fun e => ?_)
        have e2 := (mh_lt (n := nw) (by have := hW.1; omega)).mpr e
        have e3 := hW.1
        first | (exact absurd e2.1 (Int32.not_le.mpr c1)) | (exact absurd e2.2 (Int32.not_lt.mpr c9)) | (obtain ⟨j, hj, rfl⟩ := e; exact absurd c18 (nI_ge (b := 8) (by omega) (by decide)))
      · skip
        refine mh_aload_0 dX6_walkerAt_21 (q := 22) rfl ?_
        refine mh_getR fl_X6_31 dX6_walkerAt_22 (q := 25) rfl (shX6_0 h6) rfl ?_
        refine mh_iload_1 dX6_walkerAt_25 (q := 26) rfl ?_
        obtain ⟨v, hv, rfl⟩ := (mh_lt (n := nw) (by have := hW.1; omega)).mp ⟨Int32.not_lt.mp c1, Int32.not_le.mp c9⟩
        refine mh_aald dX6_walkerAt_26 (q := 27) rfl (Or.inr (Or.inr (Or.inr ⟨rfl, rfl⟩))) (shX6_4 h6) (vp_in_nI (by have := hW.1; omega) (by decide)) (hW.2.2 v hv).1 ?_
        refine mh_goto dX6_walkerAt_27 (tgt := 31) rfl ?_
        refine mh_areturn dX6_walkerAt_31 rfl ?_
        exact ht v hv rfl
def owR (u : mhWk) (what : Int32) : Int32 := if what = 0 then nI u.1 else if what = 1 then nI u.2.1 else if what = 2 then u.2.2.1 else if what = 3 then nI u.2.2.2.1 else if what = 4 then u.2.2.2.2.1 else if what = 5 then u.2.2.2.2.2.1 else if what = 6 then (if u.2.2.1 = -9 then u.2.2.2.2.2.2.1 else -9) else -2
def tlR (kind : Nat) (went : Int32) : Int32 := if kind = 1 then went + 100 else if kind = 2 then 2 * went + 100 else went
def lvT (t b : Int32) : Int32 := 31 * t + b
def tlT (kind : Nat) (t : Int32) : Int32 := if kind = 1 then lvT (lvT t 2) 1 else if kind = 2 then lvT (lvT (lvT (lvT t 3) 2) 1) 1 else lvT t 1
def grR (kind : Nat) (x : Int32) : Int32 := if kind = 2 then 70 else x
def grT (kind : Nat) (t : Int32) : Int32 := if kind = 2 then lvT t 5 else lvT t 4
set_option maxHeartbeats 4000000 in
set_option maxRecDepth 100000 in
theorem sp_X6_ofWalker {l : Launch} {K : mhX} {Φ : mhQ} {S : List mhS} {F : mhF} {I : mhI} {J : mhJ} {P : mhP} (h6 : mhKX6 S) {nw : Nat} {aW : Nat → Nat} {wk : Nat → mhWk} (hW : mhWC S F I P nw aW wk) {x what : Int32} (hn : ¬ vWn nw x → Φ (some (.int (-1))) S F I J P) (ht : ∀ v, v < nw → x = nI v → Φ (some (.int (owR (wk v) what))) S F I J P) : mhOk l K mX6_ofWalker [.ref 0, .int x, .int what] S F I J P Φ := by
  refine mhOk.of (by decide) (by decide) rfl (Nat.le_of_ble_eq_true rfl) ?_
  refine mh_aload_0 dX6_ofWalker_0 (q := 1) rfl ?_
  refine mh_iload_1 dX6_ofWalker_1 (q := 2) rfl ?_
  refine mh_callV1 ca_X6_ofWalker_2 (shX6_0 h6) (q := 5) rfl (by simp [Value.category]) ⟨Nat.zero_le _, Nat.zero_le _⟩ ?_
  refine sp_X6_walkerAt h6 hW (fun hk => ?_) (fun v hv ev => ?_)
  · skip
    refine mh_astoreN_3 dX6_ofWalker_5 (q := 6) rfl ?_
    refine mh_aloadN_3 dX6_ofWalker_6 (q := 7) rfl ?_
    refine mh_ifnonnullN dX6_ofWalker_7 (q := 10) rfl ?_
    refine mh_iconst_m1 dX6_ofWalker_10 (q := 11) rfl ?_
    refine mh_ireturn dX6_ofWalker_11 rfl rfl ?_
    exact hn hk
  · skip
    subst ev
    refine mh_astore_3 dX6_ofWalker_5 (q := 6) rfl ?_
    refine mh_aload_3 dX6_ofWalker_6 (q := 7) rfl ?_
    refine mh_ifnonnullR dX6_ofWalker_7 (tgt := 12) rfl ?_
    refine mh_iload_2 dX6_ofWalker_12 (q := 13) rfl ?_
    refine mh_tsw dX6_ofWalker_13 (tgt := 103) rfl (fun c13 => ?_) (fun i13 j13 c13 => ?_)
    · skip
      replace c13 : _ < (0 : Int32) ∨ (6 : Int32) < _ := c13.imp Int32.lt_iff_toInt_lt.mpr Int32.lt_iff_toInt_lt.mpr
      refine mh_bipush (v := (-2)) dX6_ofWalker_103 (q := 105) rfl (by decide) ?_
      refine mh_ireturn dX6_ofWalker_105 rfl rfl ?_
      exact mh_cl (ht v hv rfl) (by grind [owR])
    · rcases (show i13 = 0 ∨ i13 = 1 ∨ i13 = 2 ∨ i13 = 3 ∨ i13 = 4 ∨ i13 = 5 ∨ i13 = 6 by omega) with rfl | rfl | rfl | rfl | rfl | rfl | rfl
      · refine ⟨43, 56, rfl, rfl, ?_⟩
        replace c13 : _ = (0 : Int32) := Int32.toInt_inj.mp c13
        refine mh_aload_3 dX6_ofWalker_56 (q := 57) rfl ?_
        refine mh_getI fl_X6_271 dX6_ofWalker_57 (q := 60) rfl (shX5_0 (hW.2.2 v hv).2.1) rfl ?_
        rw [(hW.2.2 v hv).2.2.2.1]
        refine mh_ireturn dX6_ofWalker_60 rfl rfl ?_
        exact mh_cl (ht v hv rfl) (by grind [owR])
      · refine ⟨48, 61, rfl, rfl, ?_⟩
        replace c13 : _ = (1 : Int32) := Int32.toInt_inj.mp c13
        refine mh_aload_3 dX6_ofWalker_61 (q := 62) rfl ?_
        refine mh_getI fl_X6_258 dX6_ofWalker_62 (q := 65) rfl (shX5_0 (hW.2.2 v hv).2.1) rfl ?_
        rw [(hW.2.2 v hv).2.2.2.2.1]
        refine mh_ireturn dX6_ofWalker_65 rfl rfl ?_
        exact mh_cl (ht v hv rfl) (by grind [owR])
      · refine ⟨53, 66, rfl, rfl, ?_⟩
        replace c13 : _ = (2 : Int32) := Int32.toInt_inj.mp c13
        refine mh_aload_3 dX6_ofWalker_66 (q := 67) rfl ?_
        refine mh_getI fl_X6_274 dX6_ofWalker_67 (q := 70) rfl (shX5_0 (hW.2.2 v hv).2.1) rfl ?_
        rw [(hW.2.2 v hv).2.2.2.2.2.1]
        refine mh_ireturn dX6_ofWalker_70 rfl rfl ?_
        exact mh_cl (ht v hv rfl) (by grind [owR])
      · refine ⟨58, 71, rfl, rfl, ?_⟩
        replace c13 : _ = (3 : Int32) := Int32.toInt_inj.mp c13
        refine mh_aload_3 dX6_ofWalker_71 (q := 72) rfl ?_
        refine mh_getI fl_X6_275 dX6_ofWalker_72 (q := 75) rfl (shX5_0 (hW.2.2 v hv).2.1) rfl ?_
        rw [(hW.2.2 v hv).2.2.2.2.2.2.1]
        refine mh_ireturn dX6_ofWalker_75 rfl rfl ?_
        exact mh_cl (ht v hv rfl) (by grind [owR])
      · refine ⟨63, 76, rfl, rfl, ?_⟩
        replace c13 : _ = (4 : Int32) := Int32.toInt_inj.mp c13
        refine mh_aload_3 dX6_ofWalker_76 (q := 77) rfl ?_
        refine mh_getI fl_X6_278 dX6_ofWalker_77 (q := 80) rfl (shX5_0 (hW.2.2 v hv).2.1) rfl ?_
        rw [(hW.2.2 v hv).2.2.2.2.2.2.2.1]
        refine mh_ireturn dX6_ofWalker_80 rfl rfl ?_
        exact mh_cl (ht v hv rfl) (by grind [owR])
      · refine ⟨68, 81, rfl, rfl, ?_⟩
        replace c13 : _ = (5 : Int32) := Int32.toInt_inj.mp c13
        refine mh_aload_3 dX6_ofWalker_81 (q := 82) rfl ?_
        refine mh_getI fl_X6_281 dX6_ofWalker_82 (q := 85) rfl (shX5_0 (hW.2.2 v hv).2.1) rfl ?_
        rw [(hW.2.2 v hv).2.2.2.2.2.2.2.2.1]
        refine mh_ireturn dX6_ofWalker_85 rfl rfl ?_
        exact mh_cl (ht v hv rfl) (by grind [owR])
      · refine ⟨73, 86, rfl, rfl, ?_⟩
        replace c13 : _ = (6 : Int32) := Int32.toInt_inj.mp c13
        refine mh_aload_3 dX6_ofWalker_86 (q := 87) rfl ?_
        refine mh_callV0 ca_X6_ofWalker_87 (shX5_0 (hW.2.2 v hv).2.1) (q := 90) rfl (by simp [Value.category]) ⟨Nat.zero_le _, Nat.zero_le _⟩ ?_
        refine sp_X5_isOut (hW.2.2 v hv).2.1 (fun co => ?_) (fun co => ?_)
        all_goals rw [(hW.2.2 v hv).2.2.2.2.2.1] at co
        · skip
          refine mh_if_eq dX6_ofWalker_90 (tgt := 100) (q := 93) rfl rfl (fun hh => False.elim (by revert hh; decide)) (fun _ => ?_)
          refine mh_aload_3 dX6_ofWalker_93 (q := 94) rfl ?_
          refine mh_getI fl_X6_284 dX6_ofWalker_94 (q := 97) rfl (shX5_0 (hW.2.2 v hv).2.1) rfl ?_
          rw [(hW.2.2 v hv).2.2.2.2.2.2.2.2.2.1]
          refine mh_goto dX6_ofWalker_97 (tgt := 102) rfl ?_
          refine mh_ireturn dX6_ofWalker_102 rfl rfl ?_
          exact mh_cl (ht v hv rfl) (by grind [owR])
        · skip
          refine mh_if_eq dX6_ofWalker_90 (tgt := 100) (q := 93) rfl rfl (fun _ => ?_) (fun hh => False.elim (by revert hh; decide))
          refine mh_bipush (v := (-9)) dX6_ofWalker_100 (q := 102) rfl (by decide) ?_
          refine mh_ireturn dX6_ofWalker_102 rfl rfl ?_
          exact mh_cl (ht v hv rfl) (by grind [owR])
set_option maxHeartbeats 4000000 in
set_option maxRecDepth 100000 in
theorem sp_X6_leave {l : Launch} {K : mhX} {Φ : mhQ} {S : List mhS} {F : mhF} {I : mhI} {J : mhJ} {P : mhP} (h6 : mhKX6 S) {b : Int32} (hΦ : Φ none S (mhUF F 0 11 (lvT (F 0 11) b)) I J P) : mhOk l K mX6_leave [.ref 0, .int b] S F I J P Φ := by
  refine mhOk.of (by decide) (by decide) rfl (Nat.le_of_ble_eq_true rfl) ?_
  refine mh_aload_0 dX6_leave_0 (q := 1) rfl ?_
  refine mh_bipush (v := 31) dX6_leave_1 (q := 3) rfl (by decide) ?_
  refine mh_aload_0 dX6_leave_3 (q := 4) rfl ?_
  refine mh_getI fl_X6_369 dX6_leave_4 (q := 7) rfl (shX6_0 h6) rfl ?_
  refine mh_imul dX6_leave_7 (q := 8) rfl ?_
  refine mh_iload_1 dX6_leave_8 (q := 9) rfl ?_
  refine mh_iadd dX6_leave_9 (q := 10) rfl ?_
  refine mh_putI (Or.inl fw_X6_369) rfl rfl dX6_leave_10 (q := 13) rfl (shX6_0 h6) rfl ?_
  refine mh_return dX6_leave_13 rfl ?_
  exact hΦ
set_option maxHeartbeats 4000000 in
set_option maxRecDepth 100000 in
theorem sp_X6_blindTells {l : Launch} {K : mhX} {Φ : mhQ} {S : List mhS} {F : mhF} {I : mhI} {J : mhJ} {P : mhP} (h6 : mhKX6 S) {b : Nat} (hw : mhKX5 S b) (hb : 52 ≤ b) (hΦ : Φ (some (.int (F b 4))) S (mhUF F 0 11 (lvT (F 0 11) 1)) I J P) : mhOk l K mX6_blindTells [.ref 0, .ref b] S F I J P Φ := by
  refine mhOk.of (by decide) (by decide) rfl (Nat.le_of_ble_eq_true rfl) ?_
  refine mh_aload_0 dX6_blindTells_0 (q := 1) rfl ?_
  refine mh_iconst_1 dX6_blindTells_1 (q := 2) rfl ?_
  refine mh_callV1 ca_X6_blindTells_2 (shX6_0 h6) (q := 5) rfl (by simp [Value.category]) ⟨Nat.zero_le _, Nat.zero_le _⟩ ?_
  refine sp_X6_leave h6 ?_
  refine mh_aload_1 dX6_blindTells_5 (q := 6) rfl ?_
  refine mh_getI fl_X6_278 dX6_blindTells_6 (q := 9) rfl (shX5_0 hw) rfl ?_
  rw [mhUF_ne (by omega)]
  refine mh_ireturn dX6_blindTells_9 rfl rfl ?_
  exact hΦ
set_option maxHeartbeats 4000000 in
set_option maxRecDepth 100000 in
theorem sp_X6_seerTells {l : Launch} {K : mhX} {Φ : mhQ} {S : List mhS} {F : mhF} {I : mhI} {J : mhJ} {P : mhP} (h6 : mhKX6 S) {b : Nat} (hw : mhKX5 S b) (hb : 52 ≤ b) (hΦ : Φ (some (.int (F b 4 + 100))) S (mhUF F 0 11 (lvT (lvT (F 0 11) 2) 1)) I J P) : mhOk l K mX6_seerTells [.ref 0, .ref b] S F I J P Φ := by
  refine mhOk.of (by decide) (by decide) rfl (Nat.le_of_ble_eq_true rfl) ?_
  refine mh_aload_0 dX6_seerTells_0 (q := 1) rfl ?_
  refine mh_iconst_2 dX6_seerTells_1 (q := 2) rfl ?_
  refine mh_callV1 ca_X6_seerTells_2 (shX6_0 h6) (q := 5) rfl (by simp [Value.category]) ⟨Nat.zero_le _, Nat.zero_le _⟩ ?_
  refine sp_X6_leave h6 ?_
  refine mh_aload_0 dX6_seerTells_5 (q := 6) rfl ?_
  refine mh_aload_1 dX6_seerTells_6 (q := 7) rfl ?_
  refine mh_callV1 ca_X6_seerTells_7 (shX6_0 h6) (q := 10) rfl (by simp [Value.category]) ⟨Nat.zero_le _, Nat.zero_le _⟩ ?_
  refine sp_X6_blindTells h6 hw hb ?_
  rw [mhUF_uu, mhUF_at, mhUF_ne (by omega)]
  refine mh_bipush (v := 100) dX6_seerTells_10 (q := 12) rfl (by decide) ?_
  refine mh_iadd dX6_seerTells_12 (q := 13) rfl ?_
  refine mh_ireturn dX6_seerTells_13 rfl rfl ?_
  exact hΦ
set_option maxHeartbeats 4000000 in
set_option maxRecDepth 100000 in
theorem sp_X6_waryTells {l : Launch} {K : mhX} {Φ : mhQ} {S : List mhS} {F : mhF} {I : mhI} {J : mhJ} {P : mhP} (h6 : mhKX6 S) {b : Nat} (hw : mhKX5 S b) (hb : 52 ≤ b) (hΦ : Φ (some (.int (2 * F b 4 + 100))) S (mhUF F 0 11 (lvT (lvT (lvT (lvT (F 0 11) 3) 2) 1) 1)) I J P) : mhOk l K mX6_waryTells [.ref 0, .ref b] S F I J P Φ := by
  refine mhOk.of (by decide) (by decide) rfl (Nat.le_of_ble_eq_true rfl) ?_
  refine mh_aload_0 dX6_waryTells_0 (q := 1) rfl ?_
  refine mh_iconst_3 dX6_waryTells_1 (q := 2) rfl ?_
  refine mh_callV1 ca_X6_waryTells_2 (shX6_0 h6) (q := 5) rfl (by simp [Value.category]) ⟨Nat.zero_le _, Nat.zero_le _⟩ ?_
  refine sp_X6_leave h6 ?_
  refine mh_aload_0 dX6_waryTells_5 (q := 6) rfl ?_
  refine mh_aload_1 dX6_waryTells_6 (q := 7) rfl ?_
  refine mh_callV1 ca_X6_waryTells_7 (shX6_0 h6) (q := 10) rfl (by simp [Value.category]) ⟨Nat.zero_le _, Nat.zero_le _⟩ ?_
  refine sp_X6_seerTells h6 hw hb ?_
  rw [mhUF_uu, mhUF_at, mhUF_ne (by omega)]
  refine mh_aload_0 dX6_waryTells_10 (q := 11) rfl ?_
  refine mh_aload_1 dX6_waryTells_11 (q := 12) rfl ?_
  refine mh_callV1 ca_X6_waryTells_12 (shX6_0 h6) (q := 15) rfl (by simp [Value.category]) ⟨Nat.zero_le _, Nat.zero_le _⟩ ?_
  refine sp_X6_blindTells h6 hw hb ?_
  rw [mhUF_uu, mhUF_at, mhUF_ne (by omega)]
  refine mh_iadd dX6_waryTells_15 (q := 16) rfl ?_
  refine mh_ireturn dX6_waryTells_16 rfl rfl ?_
  exact mh_cl hΦ (by grind)
set_option maxHeartbeats 4000000 in
set_option maxRecDepth 100000 in
theorem sp_X6_tell {l : Launch} {K : mhX} {Φ : mhQ} {S : List mhS} {F : mhF} {I : mhI} {J : mhJ} {P : mhP} (h6 : mhKX6 S) {nw : Nat} {aW : Nat → Nat} {wk : Nat → mhWk} (hW : mhWC S F I P nw aW wk) (hv3 : ∀ v, v < nw → (wk v).1 < 3) {x : Int32} (hn : ¬ vWn nw x → Φ (some (.int (-1))) S F I J P) (ht : ∀ v, v < nw → x = nI v → Φ (some (.int (tlR (wk v).1 (wk v).2.2.2.2.1))) S (mhUF F 0 11 (tlT (wk v).1 (F 0 11))) I J P) : mhOk l K mX6_tell [.ref 0, .int x] S F I J P Φ := by
  refine mhOk.of (by decide) (by decide) rfl (Nat.le_of_ble_eq_true rfl) ?_
  refine mh_aload_0 dX6_tell_0 (q := 1) rfl ?_
  refine mh_iload_1 dX6_tell_1 (q := 2) rfl ?_
  refine mh_callV1 ca_X6_tell_2 (shX6_0 h6) (q := 5) rfl (by simp [Value.category]) ⟨Nat.zero_le _, Nat.zero_le _⟩ ?_
  refine sp_X6_walkerAt h6 hW (fun hk => ?_) (fun v hv ev => ?_)
  · skip
    refine mh_astoreN_2 dX6_tell_5 (q := 6) rfl ?_
    refine mh_aloadN_2 dX6_tell_6 (q := 7) rfl ?_
    refine mh_ifnonnullN dX6_tell_7 (q := 10) rfl ?_
    refine mh_iconst_m1 dX6_tell_10 (q := 11) rfl ?_
    refine mh_ireturn dX6_tell_11 rfl rfl ?_
    exact hn hk
  · skip
    subst ev
    refine mh_astore_2 dX6_tell_5 (q := 6) rfl ?_
    refine mh_aload_2 dX6_tell_6 (q := 7) rfl ?_
    refine mh_ifnonnullR dX6_tell_7 (tgt := 12) rfl ?_
    refine mh_aload_2 dX6_tell_12 (q := 13) rfl ?_
    refine mh_getI fl_X6_271 dX6_tell_13 (q := 16) rfl (shX5_0 (hW.2.2 v hv).2.1) rfl ?_
    rw [(hW.2.2 v hv).2.2.2.1]
    by_cases c16_1 : (nI (wk v).1) = 1
    · refine mh_lsw dX6_tell_16 (off := 34) (tgt := 50) (by decide) (by rw [c16_1]; decide) rfl ?_
      have k3 := hv3 v hv
      have hx := ht v hv rfl
      have ek : (wk v).1 = 1 := (nI_eq (by omega) (by decide)).mp c16_1
      rw [ek] at hx
      refine mh_aload_0 dX6_tell_50 (q := 51) rfl ?_
      refine mh_aload_2 dX6_tell_51 (q := 52) rfl ?_
      refine mh_callV1 ca_X6_tell_52 (shX6_0 h6) (q := 55) rfl (by simp [Value.category]) ⟨Nat.zero_le _, Nat.zero_le _⟩ ?_
      refine sp_X6_seerTells h6 (hW.2.2 v hv).2.1 (hW.2.2 v hv).2.2.1 ?_
      rw [(hW.2.2 v hv).2.2.2.2.2.2.2.1]
      refine mh_ireturn dX6_tell_55 rfl rfl ?_
      exact hx
    by_cases c16_2 : (nI (wk v).1) = 2
    · refine mh_lsw dX6_tell_16 (off := 28) (tgt := 44) (by decide) (by rw [c16_2]; decide) rfl ?_
      have k3 := hv3 v hv
      have hx := ht v hv rfl
      have ek : (wk v).1 = 2 := (nI_eq (by omega) (by decide)).mp c16_2
      rw [ek] at hx
      refine mh_aload_0 dX6_tell_44 (q := 45) rfl ?_
      refine mh_aload_2 dX6_tell_45 (q := 46) rfl ?_
      refine mh_callV1 ca_X6_tell_46 (shX6_0 h6) (q := 49) rfl (by simp [Value.category]) ⟨Nat.zero_le _, Nat.zero_le _⟩ ?_
      refine sp_X6_waryTells h6 (hW.2.2 v hv).2.1 (hW.2.2 v hv).2.2.1 ?_
      rw [(hW.2.2 v hv).2.2.2.2.2.2.2.1]
      refine mh_ireturn dX6_tell_49 rfl rfl ?_
      exact hx
    refine mh_lsw dX6_tell_16 (off := 40) (tgt := 56) (by decide) (by have e1 : ¬ ((1 : Int) = Int32.toInt (nI (wk v).1)) := fun e => c16_1 (Int32.toInt_inj.mp (e.symm.trans (by decide))); have e2 : ¬ ((2 : Int) = Int32.toInt (nI (wk v).1)) := fun e => c16_2 (Int32.toInt_inj.mp (e.symm.trans (by decide))); simp [Op.lookupswitch.offset, e1, e2]) rfl ?_
    have k3 := hv3 v hv
    have hx := ht v hv rfl
    unfold tlR tlT at hx
    have e1 : ¬ (wk v).1 = 1 := fun e => c16_1 (by rw [e]; rfl)
    have e2 : ¬ (wk v).1 = 2 := fun e => c16_2 (by rw [e]; rfl)
    rw [if_neg e1, if_neg e1, if_neg e2, if_neg e2] at hx
    refine mh_aload_0 dX6_tell_56 (q := 57) rfl ?_
    refine mh_aload_2 dX6_tell_57 (q := 58) rfl ?_
    refine mh_callV1 ca_X6_tell_58 (shX6_0 h6) (q := 61) rfl (by simp [Value.category]) ⟨Nat.zero_le _, Nat.zero_le _⟩ ?_
    refine sp_X6_blindTells h6 (hW.2.2 v hv).2.1 (hW.2.2 v hv).2.2.1 ?_
    rw [(hW.2.2 v hv).2.2.2.2.2.2.2.1]
    refine mh_ireturn dX6_tell_61 rfl rfl ?_
    exact hx
set_option maxHeartbeats 4000000 in
set_option maxRecDepth 100000 in
theorem sp_X6_greet {l : Launch} {K : mhX} {Φ : mhQ} {S : List mhS} {F : mhF} {I : mhI} {J : mhJ} {P : mhP} (h6 : mhKX6 S) {nw : Nat} {aW : Nat → Nat} {wk : Nat → mhWk} (hW : mhWC S F I P nw aW wk) (hv3 : ∀ v, v < nw → (wk v).1 < 3) {x : Int32} (hn : ¬ vWn nw x → Φ (some (.int (-1))) S F I J P) (ht : ∀ v, v < nw → x = nI v → Φ (some (.int (grR (wk v).1 x))) S (mhUF F 0 11 (grT (wk v).1 (F 0 11))) I J P) : mhOk l K mX6_greet [.ref 0, .int x] S F I J P Φ := by
  refine mhOk.of (by decide) (by decide) rfl (Nat.le_of_ble_eq_true rfl) ?_
  refine mh_aload_0 dX6_greet_0 (q := 1) rfl ?_
  refine mh_iload_1 dX6_greet_1 (q := 2) rfl ?_
  refine mh_callV1 ca_X6_greet_2 (shX6_0 h6) (q := 5) rfl (by simp [Value.category]) ⟨Nat.zero_le _, Nat.zero_le _⟩ ?_
  refine sp_X6_walkerAt h6 hW (fun hk => ?_) (fun v hv ev => ?_)
  · skip
    refine mh_astoreN_2 dX6_greet_5 (q := 6) rfl ?_
    refine mh_aloadN_2 dX6_greet_6 (q := 7) rfl ?_
    refine mh_ifnonnullN dX6_greet_7 (q := 10) rfl ?_
    refine mh_iconst_m1 dX6_greet_10 (q := 11) rfl ?_
    refine mh_ireturn dX6_greet_11 rfl rfl ?_
    exact hn hk
  · skip
    subst ev
    refine mh_astore_2 dX6_greet_5 (q := 6) rfl ?_
    refine mh_aload_2 dX6_greet_6 (q := 7) rfl ?_
    refine mh_ifnonnullR dX6_greet_7 (tgt := 12) rfl ?_
    refine mh_aload_2 dX6_greet_12 (q := 13) rfl ?_
    refine mh_getI fl_X6_271 dX6_greet_13 (q := 16) rfl (shX5_0 (hW.2.2 v hv).2.1) rfl ?_
    rw [(hW.2.2 v hv).2.2.2.1]
    refine mh_iconst_2 dX6_greet_16 (q := 17) rfl ?_
    refine mh_icmp_ne dX6_greet_17 (tgt := 28) (q := 20) rfl rfl (fun c17 => ?_) (fun c17 => ?_)
    · skip
      have k3 := hv3 v hv
      have hx := ht v hv rfl
      unfold grR grT at hx
      rw [show (2 : Int32) = nI 2 from rfl, nI_eq (by omega) (by decide)] at c17
      rw [if_neg c17, if_neg c17] at hx
      refine mh_aload_0 dX6_greet_28 (q := 29) rfl ?_
      refine mh_iconst_4 dX6_greet_29 (q := 30) rfl ?_
      refine mh_callV1 ca_X6_greet_30 (shX6_0 h6) (q := 33) rfl (by simp [Value.category]) ⟨Nat.zero_le _, Nat.zero_le _⟩ ?_
      refine sp_X6_leave h6 ?_
      refine mh_iload_1 dX6_greet_33 (q := 34) rfl ?_
      refine mh_ireturn dX6_greet_34 rfl rfl ?_
      exact hx
    · skip
      have k3 := hv3 v hv
      have hx := ht v hv rfl
      unfold grR grT at hx
      rw [show (2 : Int32) = nI 2 from rfl, nI_eq (by omega) (by decide)] at c17
      rw [if_pos c17, if_pos c17] at hx
      refine mh_aload_0 dX6_greet_20 (q := 21) rfl ?_
      refine mh_iconst_5 dX6_greet_21 (q := 22) rfl ?_
      refine mh_callV1 ca_X6_greet_22 (shX6_0 h6) (q := 25) rfl (by simp [Value.category]) ⟨Nat.zero_le _, Nat.zero_le _⟩ ?_
      refine sp_X6_leave h6 ?_
      refine mh_bipush (v := 70) dX6_greet_25 (q := 27) rfl (by decide) ?_
      refine mh_ireturn dX6_greet_27 rfl rfl ?_
      exact hx
theorem mhWC.f12 {S : List mhS} {F : mhF} {I : mhI} {P : mhP} {nw : Nat} {aW : Nat → Nat} {wk : Nat → mhWk} {k : Nat} {x : Int32} (hk : ¬ k = 9) (H : mhWC S F I P nw aW wk) : mhWC S (mhUF F 0 k x) I P nw aW wk := by
  refine ⟨H.1, (mhUF_nk (by omega)).trans H.2.1, fun v hv => ⟨(H.2.2 v hv).1, ?_⟩⟩
  obtain ⟨z1, z2, z3, z4, z5, z6, z7, z8, z9, z10⟩ := (H.2.2 v hv).2
  exact ⟨z1, z2, (mhUF_ne (by omega)).trans z3, (mhUF_ne (by omega)).trans z4, (mhUF_ne (by omega)).trans z5, (mhUF_ne (by omega)).trans z6, (mhUF_ne (by omega)).trans z7, (mhUF_ne (by omega)).trans z8, (mhUF_ne (by omega)).trans z9, z10⟩
set_option maxHeartbeats 4000000 in
set_option maxRecDepth 100000 in
theorem sp_X6_as {l : Launch} {K : mhX} {Φ : mhQ} {S : List mhS} {F : mhF} {I : mhI} {J : mhJ} {P : mhP} (h6 : mhKX6 S) {nw : Nat} {aW : Nat → Nat} {wk : Nat → mhWk} (hW : mhWC S F I P nw aW wk) {x y : Int32} (hn : ¬ vWn nw x → Φ (some (.int (-1))) S (mhUF F 0 12 0) I J P) (hb : vWn nw x → ¬ (0 ≤ y ∧ y ≤ 2) → Φ (some (.int (-2))) S (mhUF F 0 12 0) I J P) (ht : ∀ v, v < nw → x = nI v → (0 ≤ y ∧ y ≤ 2) → y ≤ nI (wk v).1 → Φ (some (.int 1)) S (mhUF F 0 12 0) I J P) (hf : ∀ v, v < nw → x = nI v → (0 ≤ y ∧ y ≤ 2) → ¬ y ≤ nI (wk v).1 → Φ (some (.int (-12))) S (mhUF F 0 12 2) I J P) : mhOk l K mX6_as [.ref 0, .int x, .int y] S F I J P Φ := by
  refine mhOk.of (by decide) (by decide) rfl (Nat.le_of_ble_eq_true rfl) ?_
  refine mh_aload_0 dX6_as_0 (q := 1) rfl ?_
  refine mh_iconst_0 dX6_as_1 (q := 2) rfl ?_
  refine mh_putI (Or.inl fw_X6_65) rfl rfl dX6_as_2 (q := 5) rfl (shX6_0 h6) rfl ?_
  replace hW := hW.f12 (k := 12) (x := 0) (by decide)
  refine mh_aload_0 dX6_as_5 (q := 6) rfl ?_
  refine mh_iload_1 dX6_as_6 (q := 7) rfl ?_
  refine mh_callV1 ca_X6_as_7 (shX6_0 h6) (q := 10) rfl (by simp [Value.category]) ⟨Nat.zero_le _, Nat.zero_le _⟩ ?_
  refine sp_X6_walkerAt h6 hW (fun hk => ?_) (fun v hv ev => ?_)
  · skip
    refine mh_astoreN_3 dX6_as_10 (q := 11) rfl ?_
    refine mh_aloadN_3 dX6_as_11 (q := 12) rfl ?_
    refine mh_ifnonnullN dX6_as_12 (q := 15) rfl ?_
    refine mh_iconst_m1 dX6_as_15 (q := 16) rfl ?_
    refine mh_ireturn dX6_as_16 rfl rfl ?_
    exact hn hk
  · skip
    subst ev
    refine mh_astore_3 dX6_as_10 (q := 11) rfl ?_
    refine mh_aload_3 dX6_as_11 (q := 12) rfl ?_
    refine mh_ifnonnullR dX6_as_12 (tgt := 17) rfl ?_
    refine mh_iload_2 dX6_as_17 (q := 18) rfl ?_
    refine mh_iconst_0 dX6_as_18 (q := 19) rfl ?_
    refine mh_iconst_2 dX6_as_19 (q := 20) rfl ?_
    refine mh_callS3 ca_X6_as_20 (q := 23) rfl (by simp [Value.category]) ⟨Nat.zero_le _, Nat.zero_le _⟩ ?_
    refine sp_X6_within (fun cy => ?_) (fun cy => ?_)
    · skip
      refine mh_if_ne dX6_as_23 (tgt := 29) (q := 26) rfl rfl (fun _ => ?_) (fun hh => False.elim (by revert hh; decide))
      refine mh_aload_3 dX6_as_29 (q := 30) rfl ?_
      refine mh_getI fl_X6_271 dX6_as_30 (q := 33) rfl (shX5_0 (hW.2.2 v hv).2.1) rfl ?_
      rw [(hW.2.2 v hv).2.2.2.1]
      refine mh_iload_2 dX6_as_33 (q := 34) rfl ?_
      refine mh_icmp_lt dX6_as_34 (tgt := 41) (q := 37) rfl rfl (fun c34 => ?_) (fun c34 => ?_)
      · skip
        refine mh_aload_0 dX6_as_41 (q := 42) rfl ?_
        refine mh_iconst_2 dX6_as_42 (q := 43) rfl ?_
        refine mh_callV1 ca_X6_as_43 (shX6_0 h6) (q := 46) rfl (by simp [Value.category]) ⟨Nat.zero_le _, Nat.zero_le _⟩ ?_
        refine sp_X6_faulted h6 ?_
        rw [mhUF_uu]
        refine mh_ireturn dX6_as_46 rfl rfl ?_
        exact hf v hv rfl cy (Int32.not_le.mpr c34)
      · skip
        refine mh_iconst_1 dX6_as_37 (q := 38) rfl ?_
        refine mh_goto dX6_as_38 (tgt := 46) rfl ?_
        refine mh_ireturn dX6_as_46 rfl rfl ?_
        exact ht v hv rfl cy (Int32.not_lt.mp c34)
    · skip
      refine mh_if_ne dX6_as_23 (tgt := 29) (q := 26) rfl rfl (fun hh => False.elim (by revert hh; decide)) (fun _ => ?_)
      refine mh_bipush (v := (-2)) dX6_as_26 (q := 28) rfl (by decide) ?_
      refine mh_ireturn dX6_as_28 rfl rfl ?_
      exact hb ⟨v, hv, rfl⟩ cy
set_option maxHeartbeats 4000000 in
set_option maxRecDepth 100000 in
theorem sp_X6_trace {l : Launch} {K : mhX} {Φ : mhQ} {S : List mhS} {F : mhF} {I : mhI} {J : mhJ} {P : mhP} (h6 : mhKX6 S) (hΦ : Φ (some (.int (F 0 11))) S F I J P) : mhOk l K mX6_trace [.ref 0] S F I J P Φ := by
  refine mhOk.of (by decide) (by decide) rfl (Nat.le_of_ble_eq_true rfl) ?_
  refine mh_aload_0 dX6_trace_0 (q := 1) rfl ?_
  refine mh_getI fl_X6_369 dX6_trace_1 (q := 4) rfl (shX6_0 h6) rfl ?_
  refine mh_ireturn dX6_trace_4 rfl rfl ?_
  exact hΦ
set_option maxHeartbeats 4000000 in
set_option maxRecDepth 100000 in
theorem sp_X6_fault {l : Launch} {K : mhX} {Φ : mhQ} {S : List mhS} {F : mhF} {I : mhI} {J : mhJ} {P : mhP} (h6 : mhKX6 S) (hΦ : Φ (some (.int (F 0 12))) S F I J P) : mhOk l K mX6_fault [.ref 0] S F I J P Φ := by
  refine mhOk.of (by decide) (by decide) rfl (Nat.le_of_ble_eq_true rfl) ?_
  refine mh_aload_0 dX6_fault_0 (q := 1) rfl ?_
  refine mh_getI fl_X6_65 dX6_fault_1 (q := 4) rfl (shX6_0 h6) rfl ?_
  refine mh_ireturn dX6_fault_4 rfl rfl ?_
  exact hΦ
def maR (nh nr np nw : Nat) (wk : Nat → mhWk) (what : Int32) : Int32 := if what = 0 then nI nh else if what = 1 then nI nr else if what = 2 then nI np else if what = 3 then nI nw else if what = 4 then nI (wkOut wk nw) else -2
set_option maxHeartbeats 4000000 in
set_option maxRecDepth 100000 in
theorem sp_X6_many {l : Launch} {K : mhX} {Φ : mhQ} {S : List mhS} {F : mhF} {I : mhI} {J : mhJ} {P : mhP} (h6 : mhKX6 S) {nh nr np : Nat} (h7 : F 0 7 = nI nh) (h8 : F 0 8 = nI nr) (h10 : F 0 10 = nI np) {nw : Nat} {aW : Nat → Nat} {wk : Nat → mhWk} (hW : mhWC S F I P nw aW wk) {what : Int32} (hΦ : Φ (some (.int (maR nh nr np nw wk what))) S F I J P) : mhOk l K mX6_many [.ref 0, .int what] S F I J P Φ := by
  refine mhOk.of (by decide) (by decide) rfl (Nat.le_of_ble_eq_true rfl) ?_
  refine mh_iload_1 dX6_many_0 (q := 1) rfl ?_
  refine mh_tsw dX6_many_1 (tgt := 61) rfl (fun c1 => ?_) (fun i1 j1 c1 => ?_)
  · skip
    replace c1 : _ < (0 : Int32) ∨ (4 : Int32) < _ := c1.imp Int32.lt_iff_toInt_lt.mpr Int32.lt_iff_toInt_lt.mpr
    refine mh_bipush (v := (-2)) dX6_many_61 (q := 63) rfl (by decide) ?_
    refine mh_ireturn dX6_many_63 rfl rfl ?_
    exact mh_cl hΦ (by grind [maR])
  · rcases (show i1 = 0 ∨ i1 = 1 ∨ i1 = 2 ∨ i1 = 3 ∨ i1 = 4 by omega) with rfl | rfl | rfl | rfl | rfl
    · refine ⟨35, 36, rfl, rfl, ?_⟩
      replace c1 : _ = (0 : Int32) := Int32.toInt_inj.mp c1
      refine mh_aload_0 dX6_many_36 (q := 37) rfl ?_
      refine mh_getI fl_X6_54 dX6_many_37 (q := 40) rfl (shX6_0 h6) rfl ?_
      rw [h7]
      refine mh_ireturn dX6_many_40 rfl rfl ?_
      exact mh_cl hΦ (by grind [maR])
    · refine ⟨40, 41, rfl, rfl, ?_⟩
      replace c1 : _ = (1 : Int32) := Int32.toInt_inj.mp c1
      refine mh_aload_0 dX6_many_41 (q := 42) rfl ?_
      refine mh_getI fl_X6_208 dX6_many_42 (q := 45) rfl (shX6_0 h6) rfl ?_
      rw [h8]
      refine mh_ireturn dX6_many_45 rfl rfl ?_
      exact mh_cl hΦ (by grind [maR])
    · refine ⟨45, 46, rfl, rfl, ?_⟩
      replace c1 : _ = (2 : Int32) := Int32.toInt_inj.mp c1
      refine mh_aload_0 dX6_many_46 (q := 47) rfl ?_
      refine mh_getI fl_X6_241 dX6_many_47 (q := 50) rfl (shX6_0 h6) rfl ?_
      rw [h10]
      refine mh_ireturn dX6_many_50 rfl rfl ?_
      exact mh_cl hΦ (by grind [maR])
    · refine ⟨50, 51, rfl, rfl, ?_⟩
      replace c1 : _ = (3 : Int32) := Int32.toInt_inj.mp c1
      refine mh_aload_0 dX6_many_51 (q := 52) rfl ?_
      refine mh_getI fl_X6_58 dX6_many_52 (q := 55) rfl (shX6_0 h6) rfl ?_
      rw [hW.2.1]
      refine mh_ireturn dX6_many_55 rfl rfl ?_
      exact mh_cl hΦ (by grind [maR])
    · refine ⟨55, 56, rfl, rfl, ?_⟩
      replace c1 : _ = (4 : Int32) := Int32.toInt_inj.mp c1
      refine mh_aload_0 dX6_many_56 (q := 57) rfl ?_
      refine mh_callV0 ca_X6_many_57 (shX6_0 h6) (q := 60) rfl (by simp [Value.category]) ⟨Nat.zero_le _, Nat.zero_le _⟩ ?_
      refine sp_X6_outs h6 hW ?_
      refine mh_ireturn dX6_many_60 rfl rfl ?_
      exact mh_cl hΦ (by grind [maR])
