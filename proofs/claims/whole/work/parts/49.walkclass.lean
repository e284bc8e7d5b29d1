/-! walkers, by the class -/
/-- kind, house, room, came, went, ran, lived, times -/
abbrev mhWk : Type := Nat × Nat × Int32 × Nat × Int32 × Int32 × Int32 × (Nat → Int32)
def wkTk (kd sm : Nat → Int32) (kind k : Nat) : Prop := kd k = 2 ∨ (¬ kind = 0 ∧ kd k = 1 ∧ sm k = 0)
def wkOf (kind : Nat) (tm : Nat → Int32) (k : Nat) : Int32 := if kind = 2 then tm k else 0
noncomputable def wkCh (w h : Nat) (kd sm : Nat → Int32) (kind : Nat) (tm : Nat → Int32) (r c : Nat) : Nat → Option Nat × Int32
  | 0 => (none, 0)
  | k + 1 => @ite _ (wkTk kd sm kind (gSide w h r (hnd r c k)) ∧ ((wkCh w h kd sm kind tm r c k).1 = none ∨ wkOf kind tm (gSide w h r (hnd r c k)) < (wkCh w h kd sm kind tm r c k).2)) (Classical.propDecidable _) (some (hnd r c k), wkOf kind tm (gSide w h r (hnd r c k))) (wkCh w h kd sm kind tm r c k)
theorem wkCh_t {w h : Nat} {kd sm : Nat → Int32} {kind : Nat} {tm : Nat → Int32} {r c k : Nat} (h1 : wkTk kd sm kind (gSide w h r (hnd r c k)) ∧ ((wkCh w h kd sm kind tm r c k).1 = none ∨ wkOf kind tm (gSide w h r (hnd r c k)) < (wkCh w h kd sm kind tm r c k).2)) : wkCh w h kd sm kind tm r c (k + 1) = (some (hnd r c k), wkOf kind tm (gSide w h r (hnd r c k))) := @if_pos _ (Classical.propDecidable _) h1 _ _ _
theorem wkCh_f {w h : Nat} {kd sm : Nat → Int32} {kind : Nat} {tm : Nat → Int32} {r c k : Nat} (h1 : ¬ (wkTk kd sm kind (gSide w h r (hnd r c k)) ∧ ((wkCh w h kd sm kind tm r c k).1 = none ∨ wkOf kind tm (gSide w h r (hnd r c k)) < (wkCh w h kd sm kind tm r c k).2))) : wkCh w h kd sm kind tm r c (k + 1) = wkCh w h kd sm kind tm r c k := @if_neg _ (Classical.propDecidable _) h1 _ _ _
theorem wkCh_lt {w h : Nat} {kd sm : Nat → Int32} {kind : Nat} {tm : Nat → Int32} {r c d : Nat} : ∀ {k : Nat}, (wkCh w h kd sm kind tm r c k).1 = some d → d < 3 ∧ wkTk kd sm kind (gSide w h r d)
  | 0, z => by cases z
  | k + 1, z => by
    by_cases q : wkTk kd sm kind (gSide w h r (hnd r c k)) ∧ ((wkCh w h kd sm kind tm r c k).1 = none ∨ wkOf kind tm (gSide w h r (hnd r c k)) < (wkCh w h kd sm kind tm r c k).2)
    · rw [wkCh_t q] at z
      cases z
      exact ⟨hnd_lt, q.1⟩
    · rw [wkCh_f q] at z
      exact wkCh_lt z
/-- a blind one takes the first open side -/
theorem wkCh_0 {w h : Nat} {kd sm : Nat → Int32} {tm : Nat → Int32} {r c : Nat} : ∀ {k : Nat}, k ≤ 3 → ((wkCh w h kd sm 0 tm r c k).2 = 0 ∧ ((wkCh w h kd sm 0 tm r c k).1 = none → foG w h kd r c 3 = foG w h kd r c (3 - k)) ∧ (∀ d, (wkCh w h kd sm 0 tm r c k).1 = some d → foG w h kd r c 3 = some d))
  | 0, _ => ⟨rfl, fun _ => rfl, fun d z => by cases z⟩
  | k + 1, hk => by
    obtain ⟨h1, h2, h3⟩ := wkCh_0 (w := w) (h := h) (kd := kd) (sm := sm) (tm := tm) (r := r) (c := c) (k := k) (by omega)
    have es : foG w h kd r c (3 - k) = if kd (gSide w h r (hnd r c k)) = 2 then some (hnd r c k) else foG w h kd r c (3 - (k + 1)) := by
      rw [show 3 - k = (3 - (k + 1)) + 1 by omega]
      show (if kd (gSide w h r (hnd r c (2 - (3 - (k + 1))))) = 2 then some (hnd r c (2 - (3 - (k + 1)))) else _) = _
      rw [show 2 - (3 - (k + 1)) = k by omega]
    have tk : wkTk kd sm 0 (gSide w h r (hnd r c k)) ↔ kd (gSide w h r (hnd r c k)) = 2 := ⟨fun z => z.elim id (fun y => absurd rfl y.1), Or.inl⟩
    by_cases q : wkTk kd sm 0 (gSide w h r (hnd r c k)) ∧ ((wkCh w h kd sm 0 tm r c k).1 = none ∨ wkOf 0 tm (gSide w h r (hnd r c k)) < (wkCh w h kd sm 0 tm r c k).2)
    · rw [wkCh_t q]
      have hn : (wkCh w h kd sm 0 tm r c k).1 = none := q.2.elim id (fun z => by rw [h1] at z; exact absurd z (by show ¬ (0 : Int32) < 0; decide))
      refine ⟨rfl, fun z => (by cases z), fun d z => ?_⟩
      rw [h2 hn, es, if_pos (tk.mp q.1)]
      exact z
    · rw [wkCh_f q]
      refine ⟨h1, fun z => ?_, h3⟩
      rw [h2 z, es, if_neg (fun y => q ⟨tk.mpr y, Or.inl z⟩)]
theorem wkCh_fo {w h : Nat} {kd sm : Nat → Int32} {tm : Nat → Int32} {r c : Nat} : (wkCh w h kd sm 0 tm r c 3).1 = foG w h kd r c 3 := by
  obtain ⟨h1, h2, h3⟩ := wkCh_0 (w := w) (h := h) (kd := kd) (sm := sm) (tm := tm) (r := r) (c := c) (k := 3) (Nat.le_refl 3)
  cases z : (wkCh w h kd sm 0 tm r c 3).1 with
  | none => rw [h2 z]; rfl
  | some d => exact (h3 d z).symm
def upN (f : Nat → Int32) (i : Nat) (v : Int32) : Nat → Int32 := fun x => if x = i then v else f x
/-- one tick of a walker who is inside: the walker, the smears -/
noncomputable def wkStep (w h : Nat) (kd sm : Nat → Int32) (u : mhWk) : mhWk × (Nat → Int32) :=
  match (wkCh w h kd sm u.1 u.2.2.2.2.2.2.2 u.2.2.1.toNatClampNeg u.2.2.2.1 3).1 with
  | none => ((u.1, u.2.1, u.2.2.1, u.2.2.2.1, u.2.2.2.2.1, u.2.2.2.2.2.1, u.2.2.2.2.2.2.1 + 1, u.2.2.2.2.2.2.2), sm)
  | some d =>
    if kd (gSide w h u.2.2.1.toNatClampNeg d) = 1 then ((u.1, u.2.1, u.2.2.1, u.2.2.2.1, u.2.2.2.2.1, u.2.2.2.2.2.1 + 1, u.2.2.2.2.2.2.1 + 1, upN u.2.2.2.2.2.2.2 (gSide w h u.2.2.1.toNatClampNeg d) (u.2.2.2.2.2.2.2 (gSide w h u.2.2.1.toNatClampNeg d) + 1)), upN sm (gSide w h u.2.2.1.toNatClampNeg d) 1)
    else ((u.1, u.2.1, gB w h u.2.2.1.toNatClampNeg d, d, u.2.2.2.2.1 + 1, u.2.2.2.2.2.1, u.2.2.2.2.2.2.1 + 1, upN u.2.2.2.2.2.2.2 (gSide w h u.2.2.1.toNatClampNeg d) (u.2.2.2.2.2.2.2 (gSide w h u.2.2.1.toNatClampNeg d) + 1)), sm)
/-- what holds of a walker -/
def vWk (nh : Nat) (wd hg : Nat → Nat) (u : mhWk) : Prop := u.1 < 3 ∧ u.2.1 < nh ∧ u.2.2.2.1 < 3 ∧ (u.2.2.1 = -9 ∨ ∃ r, r < gRooms (wd u.2.1) (hg u.2.1) ∧ u.2.2.1 = nI r)
def wcO (S : List mhS) (F : mhF) (I : mhI) (b : Nat) (u : mhWk) : Prop := mhKX5 S b ∧ 52 ≤ b ∧ F b 0 = nI u.1 ∧ F b 1 = nI u.2.1 ∧ F b 2 = u.2.2.1 ∧ F b 3 = nI u.2.2.2.1 ∧ F b 4 = u.2.2.2.2.1 ∧ F b 5 = u.2.2.2.2.2.1 ∧ F b 6 = u.2.2.2.2.2.2.1 ∧ ∀ k, k < 43 → I (b + 1) (nI k) = u.2.2.2.2.2.2.2 k
def smO (I : mhI) (a w h : Nat) (sm : Nat → Int32) : Prop := ∀ k, k < gSides w h → I (a + 2) (nI k) = sm k
theorem wkStep_v {nh : Nat} {wd hg : Nat → Nat} {kd sm : Nat → Int32} {u : mhWk} (g : gOk (wd u.2.1) (hg u.2.1)) (hv : vWk nh wd hg u) (hin : ¬ u.2.2.1 = -9) : vWk nh wd hg (wkStep (wd u.2.1) (hg u.2.1) kd sm u).1 ∧ (wkStep (wd u.2.1) (hg u.2.1) kd sm u).1.2.1 = u.2.1 := by
  obtain ⟨h1, h2, h3, h4⟩ := hv
  obtain ⟨r, hr, er⟩ := h4.resolve_left hin
  unfold wkStep
  split
  · exact ⟨⟨h1, h2, h3, h4⟩, rfl⟩
  · rename_i d hd
    have dl := (wkCh_lt hd).1
    split
    · exact ⟨⟨h1, h2, h3, h4⟩, rfl⟩
    · refine ⟨⟨h1, h2, dl, ?_⟩, rfl⟩
      have hb := gBd g
      have er2 : u.2.2.1.toNatClampNeg = r := by rw [er, nI_clamp (by omega)]
      dsimp only
      rw [er2]
      by_cases z : gB (wd u.2.1) (hg u.2.1) r d = -9
      · exact Or.inl z
      · have q := gB_nat g hr dl z
        exact Or.inr ⟨_, q.1, q.2⟩
set_option maxHeartbeats 4000000 in
set_option maxRecDepth 100000 in
theorem sp_X5_isOut {l : Launch} {K : mhX} {Φ : mhQ} {S : List mhS} {F : mhF} {I : mhI} {J : mhJ} {P : mhP} {b : Nat} (hw : mhKX5 S b) (ht : F b 2 = -9 → Φ (some (.int 1)) S F I J P) (hf : ¬ F b 2 = -9 → Φ (some (.int 0)) S F I J P) : mhOk l K mX5_isOut [.ref b] S F I J P Φ := by
  refine mhOk.of (by decide) (by decide) rfl (Nat.le_of_ble_eq_true rfl) ?_
  refine mh_aload_0 dX5_isOut_0 (q := 1) rfl ?_
  refine mh_getI fl_X5_22 dX5_isOut_1 (q := 4) rfl (shX5_0 hw) rfl ?_
  refine mh_bipush (v := (-9)) dX5_isOut_4 (q := 6) rfl (by decide) ?_
  refine mh_icmp_ne dX5_isOut_6 (tgt := 13) (q := 9) rfl rfl (fun c6 => ?_) (fun c6 => ?_)
  · skip
    refine mh_iconst_0 dX5_isOut_13 (q := 14) rfl ?_
    refine mh_ireturn dX5_isOut_14 rfl rfl ?_
    exact hf c6
  · skip
    refine mh_iconst_1 dX5_isOut_9 (q := 10) rfl ?_
    refine mh_goto dX5_isOut_10 (tgt := 14) rfl ?_
    refine mh_ireturn dX5_isOut_14 rfl rfl ?_
    exact ht c6
set_option maxHeartbeats 4000000 in
set_option maxRecDepth 100000 in
theorem sp_X5_seemsOpen {l : Launch} {K : mhX} {Φ : mhQ} {S : List mhS} {F : mhF} {I : mhI} {J : mhJ} {P : mhP} {a w h : Nat} {kd sm : Nat → Int32} (hH : mhHs S F I a w h) (hp : mhPn I a w h kd) (hs : smO I a w h sm) {q kind : Nat} (hk0 : ¬ kind = 0) (hq : q < gSides w h) (ht : wkTk kd sm kind q → Φ (some (.int 1)) S F I J P) (hf : ¬ wkTk kd sm kind q → Φ (some (.int 0)) S F I J P) : mhOk l K mX5_seemsOpen [.ref a, .int (nI q)] S F I J P Φ := by
  refine mhOk.of (by decide) (by decide) rfl (Nat.le_of_ble_eq_true rfl) ?_
  have hbd := gBd hH.2.1
  refine mh_aload_0 dX5_seemsOpen_0 (q := 1) rfl ?_
  refine mh_getR fl_X5_31 dX5_seemsOpen_1 (q := 4) rfl (shX1_0 hH.1) rfl ?_
  refine mh_iload_1 dX5_seemsOpen_4 (q := 5) rfl ?_
  refine mh_iald dX5_seemsOpen_5 (q := 6) rfl (shX1_1 hH.1) (vp_in_nI (by omega) (by decide)) ?_
  rw [hp q hq]
  refine mh_iconst_2 dX5_seemsOpen_6 (q := 7) rfl ?_
  refine mh_icmp_eq dX5_seemsOpen_7 (tgt := 29) (q := 10) rfl rfl (fun c7 => ?_) (fun c7 => ?_)
  · skip
    refine mh_iconst_1 dX5_seemsOpen_29 (q := 30) rfl ?_
    refine mh_goto dX5_seemsOpen_30 (tgt := 34) rfl ?_
    refine mh_ireturn dX5_seemsOpen_34 rfl rfl ?_
    exact ht (Or.inl c7)
  · skip
    refine mh_aload_0 dX5_seemsOpen_10 (q := 11) rfl ?_
    refine mh_getR fl_X5_31 dX5_seemsOpen_11 (q := 14) rfl (shX1_0 hH.1) rfl ?_
    refine mh_iload_1 dX5_seemsOpen_14 (q := 15) rfl ?_
    refine mh_iald dX5_seemsOpen_15 (q := 16) rfl (shX1_1 hH.1) (vp_in_nI (by omega) (by decide)) ?_
    rw [hp q hq]
    refine mh_iconst_1 dX5_seemsOpen_16 (q := 17) rfl ?_
    refine mh_icmp_ne dX5_seemsOpen_17 (tgt := 33) (q := 20) rfl rfl (fun c17 => ?_) (fun c17 => ?_)
    · skip
      refine mh_iconst_0 dX5_seemsOpen_33 (q := 34) rfl ?_
      refine mh_ireturn dX5_seemsOpen_34 rfl rfl ?_
      exact hf (fun z => z.elim c7 (fun y => c17 y.2.1))
    · skip
      refine mh_aload_0 dX5_seemsOpen_20 (q := 21) rfl ?_
      refine mh_getR fl_X5_48 dX5_seemsOpen_21 (q := 24) rfl (shX1_0 hH.1) rfl ?_
      refine mh_iload_1 dX5_seemsOpen_24 (q := 25) rfl ?_
      refine mh_iald dX5_seemsOpen_25 (q := 26) rfl (shX1_2 hH.1) (vp_in_nI (by omega) (by decide)) ?_
      rw [hs q hq]
      refine mh_if_ne dX5_seemsOpen_26 (tgt := 33) (q := 29) rfl rfl (fun c26 => ?_) (fun c26 => ?_)
      · skip
        refine mh_iconst_0 dX5_seemsOpen_33 (q := 34) rfl ?_
        refine mh_ireturn dX5_seemsOpen_34 rfl rfl ?_
        exact hf (fun z => z.elim c7 (fun y => c26 y.2.2))
      · skip
        refine mh_iconst_1 dX5_seemsOpen_29 (q := 30) rfl ?_
        refine mh_goto dX5_seemsOpen_30 (tgt := 34) rfl ?_
        refine mh_ireturn dX5_seemsOpen_34 rfl rfl ?_
        exact ht (Or.inr ⟨hk0, c17, c26⟩)
set_option maxHeartbeats 4000000 in
set_option maxRecDepth 100000 in
theorem lp_X5_firstClear {l : Launch} {K : mhX} {kc ks : Nat} {Φ : mhQ} {S : List mhS} {F : mhF} {I : mhI} {J : mhJ} {P : mhP} {a w h : Nat} {kd sm : Nat → Int32} (hH : mhHs S F I a w h) (hp : mhPn I a w h kd) (hs : smO I a w h sm) {b r : Nat} {u : mhWk} (hw : wcO S F I b u) (hk0 : ¬ u.1 = 0) (hk3 : u.1 < 3) (hr : r < gRooms w h) (er : u.2.2.1 = nI r) (hc : u.2.2.2.1 < 3) (hΦ : Φ (some (.int (onN (wkCh w h kd sm u.1 u.2.2.2.2.2.2.2 r u.2.2.2.1 3).1))) S F I J P) : ∀ (m q : Nat) (o5 o6 o7 : Option Value), q + m = 3 → mhV l K mX5_firstClear kc ks Φ 8 [some (.ref b), some (.ref a), some (.int (onN (wkCh w h kd sm u.1 u.2.2.2.2.2.2.2 r u.2.2.2.1 q).1)), some (.int (wkCh w h kd sm u.1 u.2.2.2.2.2.2.2 r u.2.2.2.1 q).2), some (.int (nI q)), o5, o6, o7] [] S F I J P := by
  have hbd := gBd hH.2.1
  intro m
  induction m with
  | zero =>
    intro q o5 o6 o7 hq
    obtain rfl : q = 3 := by omega
    refine mh_iload_4 dX5_firstClear_8 (q := 10) rfl ?_
    refine mh_iconst_3 dX5_firstClear_10 (q := 11) rfl ?_
    refine mh_icmp_ge dX5_firstClear_11 (tgt := 95) (q := 14) rfl rfl (fun _ => ?_) (fun hh => absurd (show (3 : Int32) ≤ nI 3 by decide) hh)
    refine mh_iload_2 dX5_firstClear_95 (q := 96) rfl ?_
    refine mh_ireturn dX5_firstClear_96 rfl rfl ?_
    exact hΦ
  | succ m ih =>
    intro q o5 o6 o7 hq
    have h9 := fun o5 o6 o7 => ih (q + 1) o5 o6 o7 (by omega)
    have t1 := (gT1 hH.2.1 hr (hnd_lt (r := r) (c := u.2.2.2.1) (k := q))).2.1
    obtain ⟨w1, w2, w3, w4, w5, w6, w7, w8, w9, w10⟩ := id hw
    have hn9 : ∀ x : Option Nat, (∀ d, x = some d → d < 3) → (onN x = -9 ↔ x = none) := fun x hx => by
      cases x with
      | none => exact ⟨fun _ => rfl, fun _ => rfl⟩
      | some d => exact ⟨fun z => absurd z (mh_n9 (by have := hx d rfl; omega)), fun z => by cases z⟩
    have hb9 := hn9 (wkCh w h kd sm u.1 u.2.2.2.2.2.2.2 r u.2.2.2.1 q).1 (fun d z => (wkCh_lt z).1)
    refine mh_iload_4 dX5_firstClear_8 (q := 10) rfl ?_
    refine mh_iconst_3 dX5_firstClear_10 (q := 11) rfl ?_
    refine mh_icmp_ge dX5_firstClear_11 (tgt := 95) (q := 14) rfl rfl (fun hh => absurd hh (show ¬ (3 : Int32) ≤ nI q from nI_ge (b := 3) (by omega) (by decide))) (fun _ => ?_)
    refine mh_aload_0 dX5_firstClear_14 (q := 15) rfl ?_
    refine mh_getI fl_X5_22 dX5_firstClear_15 (q := 18) rfl (shX5_0 hw.1) rfl ?_
    rw [w5, er]
    refine mh_aload_0 dX5_firstClear_18 (q := 19) rfl ?_
    refine mh_getI fl_X5_25 dX5_firstClear_19 (q := 22) rfl (shX5_0 hw.1) rfl ?_
    rw [w6]
    refine mh_iload_4 dX5_firstClear_22 (q := 24) rfl ?_
    refine mh_callS3 ca_X5_firstClear_24 (q := 27) rfl (by simp [Value.category]) ⟨Nat.zero_le _, Nat.zero_le _⟩ ?_
    refine sp_X1_handWay (by omega) hc (by omega) ?_
    refine mh_istore_5 dX5_firstClear_27 (q := 29) rfl ?_
    refine mh_aload_1 dX5_firstClear_29 (q := 30) rfl ?_
    refine mh_aload_0 dX5_firstClear_30 (q := 31) rfl ?_
    refine mh_getI fl_X5_22 dX5_firstClear_31 (q := 34) rfl (shX5_0 hw.1) rfl ?_
    rw [w5, er]
    refine mh_iload_5 dX5_firstClear_34 (q := 36) rfl ?_
    refine mh_callV2 ca_X5_firstClear_36 (shX1_0 hH.1) (q := 39) rfl (by simp [Value.category]) ⟨Nat.zero_le _, Nat.zero_le _⟩ ?_
    refine sp_X1_sideOf hH hr hnd_lt ?_
    refine mh_istore_6 dX5_firstClear_39 (q := 41) rfl ?_
    refine mh_aload_0 dX5_firstClear_41 (q := 42) rfl ?_
    refine mh_getI fl_X5_15 dX5_firstClear_42 (q := 45) rfl (shX5_0 hw.1) rfl ?_
    rw [w3]
    refine mh_iconst_2 dX5_firstClear_45 (q := 46) rfl ?_
    refine mh_icmp_ne dX5_firstClear_46 (tgt := 59) (q := 49) rfl rfl (fun c46 => ?_) (fun c46 => ?_)
    · skip
      rw [show (2 : Int32) = nI 2 from rfl, nI_eq (by omega) (by decide)] at c46
      obtain ⟨ov, hov⟩ : ∃ ov : Int32, ov = 0 := ⟨_, rfl⟩
      have eo : ov = wkOf u.1 u.2.2.2.2.2.2.2 (gSide w h r (hnd r u.2.2.2.1 q)) := by rw [hov]; exact (if_neg c46).symm
      refine mh_iconst_0 dX5_firstClear_59 (q := 60) rfl ?_
      rw [← hov]
      refine mh_istore_7 dX5_firstClear_60 (q := 62) rfl ?_
      refine mh_aload_1 dX5_firstClear_62 (q := 63) rfl ?_
      refine mh_iload_6 dX5_firstClear_63 (q := 65) rfl ?_
      refine mh_callS2 ca_X5_firstClear_65 (q := 68) rfl (by simp [Value.category]) ⟨Nat.zero_le _, Nat.zero_le _⟩ ?_
      refine sp_X5_seemsOpen hH hp hs hk0 t1 (fun ct => ?_) (fun ct => ?_)
      · skip
        refine mh_if_eq dX5_firstClear_68 (tgt := 89) (q := 71) rfl rfl (fun hh => False.elim (by revert hh; decide)) (fun _ => ?_)
        refine mh_iload_2 dX5_firstClear_71 (q := 72) rfl ?_
        refine mh_bipush (v := (-9)) dX5_firstClear_72 (q := 74) rfl (by decide) ?_
        refine mh_icmp_eq dX5_firstClear_74 (tgt := 83) (q := 77) rfl rfl (fun c74 => ?_) (fun c74 => ?_)
        · skip
          refine mh_iload_5 dX5_firstClear_83 (q := 85) rfl ?_
          refine mh_istore_2 dX5_firstClear_85 (q := 86) rfl ?_
          refine mh_iload_7 dX5_firstClear_86 (q := 88) rfl ?_
          refine mh_istore_3 dX5_firstClear_88 (q := 89) rfl ?_
          refine mh_iinc_4 (v := 1) dX5_firstClear_89 (q := 92) rfl (by decide) ?_
          refine mh_goto dX5_firstClear_92 (tgt := 8) rfl ?_
          rw [nI_1]
          rw [wkCh_t ⟨ct, Or.inl (hb9.mp c74)⟩] at h9
          rw [← eo] at h9
          exact h9 _ _ _
        · skip
          refine mh_iload_7 dX5_firstClear_77 (q := 79) rfl ?_
          refine mh_iload_3 dX5_firstClear_79 (q := 80) rfl ?_
          refine mh_icmp_ge dX5_firstClear_80 (tgt := 89) (q := 83) rfl rfl (fun c80 => ?_) (fun c80 => ?_)
          · skip
            refine mh_iinc_4 (v := 1) dX5_firstClear_89 (q := 92) rfl (by decide) ?_
            refine mh_goto dX5_firstClear_92 (tgt := 8) rfl ?_
            rw [nI_1]
            rw [wkCh_f (fun z => z.2.elim (fun y => c74 (hb9.mpr y)) (fun y => by rw [← eo] at y; exact absurd y (Int32.not_lt.mpr c80)))] at h9
            exact h9 _ _ _
          · skip
            refine mh_iload_5 dX5_firstClear_83 (q := 85) rfl ?_
            refine mh_istore_2 dX5_firstClear_85 (q := 86) rfl ?_
            refine mh_iload_7 dX5_firstClear_86 (q := 88) rfl ?_
            refine mh_istore_3 dX5_firstClear_88 (q := 89) rfl ?_
            refine mh_iinc_4 (v := 1) dX5_firstClear_89 (q := 92) rfl (by decide) ?_
            refine mh_goto dX5_firstClear_92 (tgt := 8) rfl ?_
            rw [nI_1]
            rw [wkCh_t ⟨ct, Or.inr (by rw [← eo]; exact Int32.not_le.mp c80)⟩] at h9
            rw [← eo] at h9
            exact h9 _ _ _
      · skip
        refine mh_if_eq dX5_firstClear_68 (tgt := 89) (q := 71) rfl rfl (fun _ => ?_) (fun hh => False.elim (by revert hh; decide))
        refine mh_iinc_4 (v := 1) dX5_firstClear_89 (q := 92) rfl (by decide) ?_
        refine mh_goto dX5_firstClear_92 (tgt := 8) rfl ?_
        rw [nI_1]
        rw [wkCh_f (fun z => ct z.1)] at h9
        exact h9 _ _ _
    · skip
      rw [show (2 : Int32) = nI 2 from rfl, nI_eq (by omega) (by decide)] at c46
      obtain ⟨ov, hov⟩ : ∃ ov : Int32, ov = u.2.2.2.2.2.2.2 (gSide w h r (hnd r u.2.2.2.1 q)) := ⟨_, rfl⟩
      have eo : ov = wkOf u.1 u.2.2.2.2.2.2.2 (gSide w h r (hnd r u.2.2.2.1 q)) := by rw [hov]; exact (if_pos c46).symm
      refine mh_aload_0 dX5_firstClear_49 (q := 50) rfl ?_
      refine mh_getR fl_X5_9 dX5_firstClear_50 (q := 53) rfl (shX5_0 hw.1) rfl ?_
      refine mh_iload_6 dX5_firstClear_53 (q := 55) rfl ?_
      refine mh_iald dX5_firstClear_55 (q := 56) rfl (shX5_1 hw.1) (vp_in_nI (by omega) (by decide)) ?_
      rw [w10 _ (by omega), ← hov]
      refine mh_goto dX5_firstClear_56 (tgt := 60) rfl ?_
      refine mh_istore_7 dX5_firstClear_60 (q := 62) rfl ?_
      refine mh_aload_1 dX5_firstClear_62 (q := 63) rfl ?_
      refine mh_iload_6 dX5_firstClear_63 (q := 65) rfl ?_
      refine mh_callS2 ca_X5_firstClear_65 (q := 68) rfl (by simp [Value.category]) ⟨Nat.zero_le _, Nat.zero_le _⟩ ?_
      refine sp_X5_seemsOpen hH hp hs hk0 t1 (fun ct => ?_) (fun ct => ?_)
      · skip
        refine mh_if_eq dX5_firstClear_68 (tgt := 89) (q := 71) rfl rfl (fun hh => False.elim (by revert hh; decide)) (fun _ => ?_)
        refine mh_iload_2 dX5_firstClear_71 (q := 72) rfl ?_
        refine mh_bipush (v := (-9)) dX5_firstClear_72 (q := 74) rfl (by decide) ?_
        refine mh_icmp_eq dX5_firstClear_74 (tgt := 83) (q := 77) rfl rfl (fun c74 => ?_) (fun c74 => ?_)
        · skip
          refine mh_iload_5 dX5_firstClear_83 (q := 85) rfl ?_
          refine mh_istore_2 dX5_firstClear_85 (q := 86) rfl ?_
          refine mh_iload_7 dX5_firstClear_86 (q := 88) rfl ?_
          refine mh_istore_3 dX5_firstClear_88 (q := 89) rfl ?_
          refine mh_iinc_4 (v := 1) dX5_firstClear_89 (q := 92) rfl (by decide) ?_
          refine mh_goto dX5_firstClear_92 (tgt := 8) rfl ?_
          rw [nI_1]
          rw [wkCh_t ⟨ct, Or.inl (hb9.mp c74)⟩] at h9
          rw [← eo] at h9
          exact h9 _ _ _
        · skip
          refine mh_iload_7 dX5_firstClear_77 (q := 79) rfl ?_
          refine mh_iload_3 dX5_firstClear_79 (q := 80) rfl ?_
          refine mh_icmp_ge dX5_firstClear_80 (tgt := 89) (q := 83) rfl rfl (fun c80 => ?_) (fun c80 => ?_)
          · skip
            refine mh_iinc_4 (v := 1) dX5_firstClear_89 (q := 92) rfl (by decide) ?_
            refine mh_goto dX5_firstClear_92 (tgt := 8) rfl ?_
            rw [nI_1]
            rw [wkCh_f (fun z => z.2.elim (fun y => c74 (hb9.mpr y)) (fun y => by rw [← eo] at y; exact absurd y (Int32.not_lt.mpr c80)))] at h9
            exact h9 _ _ _
          · skip
            refine mh_iload_5 dX5_firstClear_83 (q := 85) rfl ?_
            refine mh_istore_2 dX5_firstClear_85 (q := 86) rfl ?_
            refine mh_iload_7 dX5_firstClear_86 (q := 88) rfl ?_
            refine mh_istore_3 dX5_firstClear_88 (q := 89) rfl ?_
            refine mh_iinc_4 (v := 1) dX5_firstClear_89 (q := 92) rfl (by decide) ?_
            refine mh_goto dX5_firstClear_92 (tgt := 8) rfl ?_
            rw [nI_1]
            rw [wkCh_t ⟨ct, Or.inr (by rw [← eo]; exact Int32.not_le.mp c80)⟩] at h9
            rw [← eo] at h9
            exact h9 _ _ _
      · skip
        refine mh_if_eq dX5_firstClear_68 (tgt := 89) (q := 71) rfl rfl (fun _ => ?_) (fun hh => False.elim (by revert hh; decide))
        refine mh_iinc_4 (v := 1) dX5_firstClear_89 (q := 92) rfl (by decide) ?_
        refine mh_goto dX5_firstClear_92 (tgt := 8) rfl ?_
        rw [nI_1]
        rw [wkCh_f (fun z => ct z.1)] at h9
        exact h9 _ _ _
set_option maxHeartbeats 4000000 in
set_option maxRecDepth 100000 in
theorem sp_X5_firstClear {l : Launch} {K : mhX} {Φ : mhQ} {S : List mhS} {F : mhF} {I : mhI} {J : mhJ} {P : mhP} {a w h : Nat} {kd sm : Nat → Int32} (hH : mhHs S F I a w h) (hp : mhPn I a w h kd) (hs : smO I a w h sm) {b r : Nat} {u : mhWk} (hw : wcO S F I b u) (hk0 : ¬ u.1 = 0) (hk3 : u.1 < 3) (hr : r < gRooms w h) (er : u.2.2.1 = nI r) (hc : u.2.2.2.1 < 3) (hΦ : Φ (some (.int (onN (wkCh w h kd sm u.1 u.2.2.2.2.2.2.2 r u.2.2.2.1 3).1))) S F I J P) : mhOk l K mX5_firstClear [.ref b, .ref a] S F I J P Φ := by
  refine mhOk.of (by decide) (by decide) rfl (Nat.le_of_ble_eq_true rfl) ?_
  refine mh_bipush (v := (-9)) dX5_firstClear_0 (q := 2) rfl (by decide) ?_
  refine mh_istore_2 dX5_firstClear_2 (q := 3) rfl ?_
  refine mh_iconst_0 dX5_firstClear_3 (q := 4) rfl ?_
  refine mh_istore_3 dX5_firstClear_4 (q := 5) rfl ?_
  refine mh_iconst_0 dX5_firstClear_5 (q := 6) rfl ?_
  refine mh_istore_4 dX5_firstClear_6 (q := 8) rfl ?_
  exact lp_X5_firstClear (kc := mX5_firstClear.2.2.2.2.cells) (ks := mX5_firstClear.2.2.2.2.slots) hH hp hs hw hk0 hk3 hr er hc hΦ 3 0 _ _ _ rfl
theorem wcO.up {S : List mhS} {F F' : mhF} {I I' : mhI} {b : Nat} {u u' : mhWk} (hw : wcO S F I b u) (h0 : F' b 0 = nI u'.1) (h1 : F' b 1 = nI u'.2.1) (h2 : F' b 2 = u'.2.2.1) (h3 : F' b 3 = nI u'.2.2.2.1) (h4 : F' b 4 = u'.2.2.2.2.1) (h5 : F' b 5 = u'.2.2.2.2.2.1) (h6 : F' b 6 = u'.2.2.2.2.2.2.1) (h7 : ∀ k, k < 43 → I' (b + 1) (nI k) = u'.2.2.2.2.2.2.2 k) : wcO S F' I' b u' := ⟨hw.1, hw.2.1, h0, h1, h2, h3, h4, h5, h6, h7⟩
set_option maxHeartbeats 4000000 in
set_option maxRecDepth 100000 in
theorem sp_X5_goOn {l : Launch} {K : mhX} {Φ : mhQ} {S : List mhS} {F : mhF} {I : mhI} {J : mhJ} {P : mhP} {a b w h : Nat} {kd sm : Nat → Int32} {u : mhWk} (hH : mhHs S F I a w h) (hp : mhPn I a w h kd) (hs : smO I a w h sm) (hab : b + 2 ≤ a ∨ a + 11 ≤ b) (hw : wcO S F I b u) (hk3 : u.1 < 3) {r : Nat} (hr : r < gRooms w h) (er : u.2.2.1 = nI r) (hc : u.2.2.2.1 < 3) (hΦ : ∀ (F2 : mhF) (I2 : mhI), wcO S F2 I2 b (wkStep w h kd sm u).1 → smO I2 a w h (wkStep w h kd sm u).2 → (∀ c k, c ≠ b → F2 c k = F c k) → (∀ c y, c ≠ b + 1 → c ≠ a + 2 → I2 c y = I c y) → Φ none S F2 I2 J P) : mhOk l K mX5_goOn [.ref b, .ref a] S F I J P Φ := by
  refine mhOk.of (by decide) (by decide) rfl (Nat.le_of_ble_eq_true rfl) ?_
  have hbd := gBd hH.2.1
  obtain ⟨w1, w2, w3, w4, w5, w6, w7, w8, w9, w10⟩ := id hw
  rw [er] at w5
  refine mh_aload_0 dX5_goOn_0 (q := 1) rfl ?_
  refine mh_dupr dX5_goOn_1 (q := 2) rfl ?_
  refine mh_getI fl_X5_28 dX5_goOn_2 (q := 5) rfl (shX5_0 hw.1) rfl ?_
  rw [w9]
  refine mh_iconst_1 dX5_goOn_5 (q := 6) rfl ?_
  refine mh_iadd dX5_goOn_6 (q := 7) rfl ?_
  refine mh_putI (Or.inl fw_X5_28) rfl rfl dX5_goOn_7 (q := 10) rfl (shX5_0 hw.1) rfl ?_
  obtain ⟨F1, hF1⟩ : ∃ z, z = mhUF F b 6 (u.2.2.2.2.2.2.1 + 1) := ⟨_, rfl⟩
  rw [← hF1]
  have f1 : ∀ c k, ¬ (c = b ∧ k = 6) → F1 c k = F c k := fun c k e => by rw [hF1]; exact mhUF_nk e
  have f6 : F1 b 6 = u.2.2.2.2.2.2.1 + 1 := by rw [hF1]; exact mhUF_at
  have g0 : F1 b 0 = nI u.1 := (f1 _ _ (by omega)).trans w3
  have g1 : F1 b 1 = nI u.2.1 := (f1 _ _ (by omega)).trans w4
  have g2 : F1 b 2 = nI r := (f1 _ _ (by omega)).trans w5
  have g3 : F1 b 3 = nI u.2.2.2.1 := (f1 _ _ (by omega)).trans w6
  have g4 : F1 b 4 = u.2.2.2.2.1 := (f1 _ _ (by omega)).trans w7
  have g5 : F1 b 5 = u.2.2.2.2.2.1 := (f1 _ _ (by omega)).trans w8
  have hH1 : mhHs S F1 I a w h := by
    obtain ⟨z1, z2, z3, z4, z5, z6, z7, z8, z9, z10, z11⟩ := hH
    exact ⟨z1, z2, (f1 _ _ (by omega)).trans z3, (f1 _ _ (by omega)).trans z4, (f1 _ _ (by omega)).trans z5, (f1 _ _ (by omega)).trans z6, z7, z8, z9, z10, z11⟩
  have hw1 : wcO S F1 I b (u.1, u.2.1, u.2.2.1, u.2.2.2.1, u.2.2.2.2.1, u.2.2.2.2.2.1, u.2.2.2.2.2.2.1 + 1, u.2.2.2.2.2.2.2) := ⟨w1, w2, g0, g1, by rw [g2, er], g3, g4, g5, f6, w10⟩
  refine mh_aload_0 dX5_goOn_10 (q := 11) rfl ?_
  refine mh_getI fl_X5_15 dX5_goOn_11 (q := 14) rfl (shX5_0 hw.1) rfl ?_
  rw [g0]
  refine mh_if_ne dX5_goOn_14 (tgt := 36) (q := 17) rfl rfl (fun c14 => ?_) (fun c14 => ?_)
  · skip
    rw [show (0 : Int32) = nI 0 from rfl, nI_eq (by omega) (by decide)] at c14
    refine mh_aload_0 dX5_goOn_36 (q := 37) rfl ?_
    refine mh_aload_1 dX5_goOn_37 (q := 38) rfl ?_
    refine mh_callV1 ca_X5_goOn_38 (shX5_0 hw.1) (q := 41) rfl (by simp [Value.category]) ⟨Nat.zero_le _, Nat.zero_le _⟩ ?_
    refine sp_X5_firstClear hH1 hp hs hw1 c14 hk3 hr er hc ?_
    dsimp only
    rcases hch : (wkCh w h kd sm u.1 u.2.2.2.2.2.2.2 r u.2.2.2.1 3).1 with _ | d
    · skip
      dsimp only [onN]
      refine mh_istore_2 dX5_goOn_41 (q := 42) rfl ?_
      refine mh_iload_2 dX5_goOn_42 (q := 43) rfl ?_
      refine mh_bipush (v := (-9)) dX5_goOn_43 (q := 45) rfl (by decide) ?_
      refine mh_icmp_ne dX5_goOn_45 (tgt := 49) (q := 48) rfl rfl (fun hh => False.elim (by revert hh; decide)) (fun _ => ?_)
      refine mh_return dX5_goOn_48 rfl ?_
      unfold wkStep at hΦ
      rw [er, nI_clamp (by omega), hch] at hΦ
      dsimp only at hΦ
      exact hΦ _ I (hw.up (by (repeat (first | rw [mhUF_at] | rw [mhUF_nk (by omega)])) <;> first | assumption | rfl) (by (repeat (first | rw [mhUF_at] | rw [mhUF_nk (by omega)])) <;> first | assumption | rfl) (by (repeat (first | rw [mhUF_at] | rw [mhUF_nk (by omega)])) <;> first | assumption | rfl) (by (repeat (first | rw [mhUF_at] | rw [mhUF_nk (by omega)])) <;> first | assumption | rfl) (by (repeat (first | rw [mhUF_at] | rw [mhUF_nk (by omega)])) <;> first | assumption | rfl) (by (repeat (first | rw [mhUF_at] | rw [mhUF_nk (by omega)])) <;> first | assumption | rfl) (by (repeat (first | rw [mhUF_at] | rw [mhUF_nk (by omega)])) <;> first | assumption | rfl) w10) hs (fun c k e => by (repeat rw [mhUF_ne e]); exact f1 c k (fun z => e z.1)) (fun _ _ _ _ => rfl)
    · skip
      have hd := (wkCh_lt hch).1
      have t1 := (gT1 hH.2.1 hr hd).2.1
      dsimp only [onN]
      refine mh_istore_2 dX5_goOn_41 (q := 42) rfl ?_
      refine mh_iload_2 dX5_goOn_42 (q := 43) rfl ?_
      refine mh_bipush (v := (-9)) dX5_goOn_43 (q := 45) rfl (by decide) ?_
      refine mh_icmp_ne dX5_goOn_45 (tgt := 49) (q := 48) rfl rfl (fun _ => ?_) (fun hh => absurd hh (mh_n9 (by omega)))
      refine mh_aload_1 dX5_goOn_49 (q := 50) rfl ?_
      refine mh_aload_0 dX5_goOn_50 (q := 51) rfl ?_
      refine mh_getI fl_X5_22 dX5_goOn_51 (q := 54) rfl (shX5_0 hw.1) rfl ?_
      rw [g2]
      refine mh_iload_2 dX5_goOn_54 (q := 55) rfl ?_
      refine mh_callV2 ca_X5_goOn_55 (shX1_0 hH.1) (q := 58) rfl (by simp [Value.category]) ⟨Nat.zero_le _, Nat.zero_le _⟩ ?_
      refine sp_X1_sideOf hH1 hr hd ?_
      refine mh_istore_3 dX5_goOn_58 (q := 59) rfl ?_
      refine mh_aload_0 dX5_goOn_59 (q := 60) rfl ?_
      refine mh_getR fl_X5_9 dX5_goOn_60 (q := 63) rfl (shX5_0 hw.1) rfl ?_
      refine mh_iload_3 dX5_goOn_63 (q := 64) rfl ?_
      refine mh_dup2ir dX5_goOn_64 (q := 65) rfl ?_
      refine mh_iald dX5_goOn_65 (q := 66) rfl (shX5_1 hw.1) (vp_in_nI (by omega) (by decide)) ?_
      rw [w10 _ (by omega)]
      refine mh_iconst_1 dX5_goOn_66 (q := 67) rfl ?_
      refine mh_iadd dX5_goOn_67 (q := 68) rfl ?_
      refine mh_iast dX5_goOn_68 (q := 69) rfl (shX5_1 hw.1) (by decide) (vp_in_nI (by omega) (by decide)) ?_
      refine mh_aload_1 dX5_goOn_69 (q := 70) rfl ?_
      refine mh_getR fl_X5_31 dX5_goOn_70 (q := 73) rfl (shX1_0 hH.1) rfl ?_
      refine mh_iload_3 dX5_goOn_73 (q := 74) rfl ?_
      refine mh_iald dX5_goOn_74 (q := 75) rfl (shX1_1 hH.1) (vp_in_nI (by omega) (by decide)) ?_
      rw [mhUI_ne (by omega), hp _ t1]
      refine mh_iconst_1 dX5_goOn_75 (q := 76) rfl ?_
      refine mh_icmp_ne dX5_goOn_76 (tgt := 97) (q := 79) rfl rfl (fun c76 => ?_) (fun c76 => ?_)
      · skip
        refine mh_aload_0 dX5_goOn_97 (q := 98) rfl ?_
        refine mh_dupr dX5_goOn_98 (q := 99) rfl ?_
        refine mh_getI fl_X5_54 dX5_goOn_99 (q := 102) rfl (shX5_0 hw.1) rfl ?_
        rw [g4]
        refine mh_iconst_1 dX5_goOn_102 (q := 103) rfl ?_
        refine mh_iadd dX5_goOn_103 (q := 104) rfl ?_
        refine mh_putI (Or.inl fw_X5_54) rfl rfl dX5_goOn_104 (q := 107) rfl (shX5_0 hw.1) rfl ?_
        refine mh_aload_0 dX5_goOn_107 (q := 108) rfl ?_
        refine mh_aload_1 dX5_goOn_108 (q := 109) rfl ?_
        refine mh_aload_0 dX5_goOn_109 (q := 110) rfl ?_
        refine mh_getI fl_X5_22 dX5_goOn_110 (q := 113) rfl (shX5_0 hw.1) rfl ?_
        rw [show mhUF F1 b 4 (u.2.2.2.2.1 + 1) b 2 = nI r from (mhUF_nk (by omega)).trans g2]
        refine mh_iload_2 dX5_goOn_113 (q := 114) rfl ?_
        refine mh_callV2 ca_X5_goOn_114 (shX1_0 hH.1) (q := 117) rfl (by simp [Value.category]) ⟨Nat.zero_le _, Nat.zero_le _⟩ ?_
        refine sp_X1_behind (F := mhUF F1 b 4 (u.2.2.2.2.1 + 1)) (I := mhUI I (b + 1) (nI (gSide w h r d)) (u.2.2.2.2.2.2.2 (gSide w h r d) + 1)) ?_ hr hd ?_
        · obtain ⟨z1, z2, z3, z4, z5, z6, z7, z8, z9, z10, z11⟩ := hH1
          exact ⟨z1, z2, (mhUF_nk (by omega)).trans z3, (mhUF_nk (by omega)).trans z4, (mhUF_nk (by omega)).trans z5, (mhUF_nk (by omega)).trans z6, fun b hb j => (mhUI_ne (by omega)).trans (z7 b hb j), (mhUI_ne (by omega)).trans z8, (mhUI_ne (by omega)).trans z9, (mhUI_ne (by omega)).trans z10, z11⟩
        refine mh_putI (Or.inl fw_X5_22) rfl rfl dX5_goOn_117 (q := 120) rfl (shX5_0 hw.1) rfl ?_
        refine mh_aload_0 dX5_goOn_120 (q := 121) rfl ?_
        refine mh_iload_2 dX5_goOn_121 (q := 122) rfl ?_
        refine mh_putI (Or.inl fw_X5_25) rfl rfl dX5_goOn_122 (q := 125) rfl (shX5_0 hw.1) rfl ?_
        refine mh_return dX5_goOn_125 rfl ?_
        unfold wkStep at hΦ
        rw [er, nI_clamp (by omega), hch] at hΦ
        dsimp only at hΦ
        rw [if_neg c76] at hΦ
        exact hΦ _ _ (hw.up (by (repeat (first | rw [mhUF_at] | rw [mhUF_nk (by omega)])) <;> first | assumption | rfl) (by (repeat (first | rw [mhUF_at] | rw [mhUF_nk (by omega)])) <;> first | assumption | rfl) (by (repeat (first | rw [mhUF_at] | rw [mhUF_nk (by omega)])) <;> first | assumption | rfl) (by (repeat (first | rw [mhUF_at] | rw [mhUF_nk (by omega)])) <;> first | assumption | rfl) (by (repeat (first | rw [mhUF_at] | rw [mhUF_nk (by omega)])) <;> first | assumption | rfl) (by (repeat (first | rw [mhUF_at] | rw [mhUF_nk (by omega)])) <;> first | assumption | rfl) (by (repeat (first | rw [mhUF_at] | rw [mhUF_nk (by omega)])) <;> first | assumption | rfl) (fun k hk => by
          unfold upN
          dsimp only
          rw [mhUI_at (by omega) (by omega)]
          by_cases e : k = gSide w h r d
          · rw [if_pos ⟨rfl, e⟩, if_pos e]
          · rw [if_neg (fun z => e z.2), if_neg e]; exact w10 k hk)) (fun k hk => (mhUI_ne (by omega)).trans (hs k hk)) (fun c k e => by (repeat rw [mhUF_ne e]); exact f1 c k (fun z => e z.1)) (fun c y e1 e2 => mhUI_ne e1)
      · skip
        refine mh_aload_1 dX5_goOn_79 (q := 80) rfl ?_
        refine mh_getR fl_X5_48 dX5_goOn_80 (q := 83) rfl (shX1_0 hH.1) rfl ?_
        refine mh_iload_3 dX5_goOn_83 (q := 84) rfl ?_
        refine mh_iconst_1 dX5_goOn_84 (q := 85) rfl ?_
        refine mh_iast dX5_goOn_85 (q := 86) rfl (shX1_2 hH.1) (by decide) (vp_in_nI (by omega) (by decide)) ?_
        refine mh_aload_0 dX5_goOn_86 (q := 87) rfl ?_
        refine mh_dupr dX5_goOn_87 (q := 88) rfl ?_
        refine mh_getI fl_X5_51 dX5_goOn_88 (q := 91) rfl (shX5_0 hw.1) rfl ?_
        rw [g5]
        refine mh_iconst_1 dX5_goOn_91 (q := 92) rfl ?_
        refine mh_iadd dX5_goOn_92 (q := 93) rfl ?_
        refine mh_putI (Or.inl fw_X5_51) rfl rfl dX5_goOn_93 (q := 96) rfl (shX5_0 hw.1) rfl ?_
        refine mh_return dX5_goOn_96 rfl ?_
        unfold wkStep at hΦ
        rw [er, nI_clamp (by omega), hch] at hΦ
        dsimp only at hΦ
        rw [if_pos c76] at hΦ
        refine hΦ _ _ (hw.up (by (repeat (first | rw [mhUF_at] | rw [mhUF_nk (by omega)])) <;> first | assumption | rfl) (by (repeat (first | rw [mhUF_at] | rw [mhUF_nk (by omega)])) <;> first | assumption | rfl) (by (repeat (first | rw [mhUF_at] | rw [mhUF_nk (by omega)])) <;> first | assumption | rfl) (by (repeat (first | rw [mhUF_at] | rw [mhUF_nk (by omega)])) <;> first | assumption | rfl) (by (repeat (first | rw [mhUF_at] | rw [mhUF_nk (by omega)])) <;> first | assumption | rfl) (by (repeat (first | rw [mhUF_at] | rw [mhUF_nk (by omega)])) <;> first | assumption | rfl) (by (repeat (first | rw [mhUF_at] | rw [mhUF_nk (by omega)])) <;> first | assumption | rfl) (fun k hk => by
          unfold upN
          dsimp only
          rw [mhUI_ne (by omega), mhUI_at (by omega) (by omega)]
          by_cases e : k = gSide w h r d
          · rw [if_pos ⟨rfl, e⟩, if_pos e]
          · rw [if_neg (fun z => e z.2), if_neg e]; exact w10 k hk)) (fun k hk => ?_) (fun c k e => by (repeat rw [mhUF_ne e]); exact f1 c k (fun z => e z.1)) (fun c y e1 e2 => (mhUI_ne e2).trans (mhUI_ne e1))
        unfold upN
        dsimp only
        rw [mhUI_at (by omega) (by omega)]
        by_cases e : k = gSide w h r d
        · rw [if_pos ⟨rfl, e⟩, if_pos e]
        · rw [if_neg (fun z => e z.2), if_neg e, mhUI_ne (by omega)]; exact hs k hk
  · skip
    rw [show (0 : Int32) = nI 0 from rfl, nI_eq (by omega) (by decide)] at c14
    refine mh_aload_1 dX5_goOn_17 (q := 18) rfl ?_
    refine mh_aload_1 dX5_goOn_18 (q := 19) rfl ?_
    refine mh_getR fl_X5_31 dX5_goOn_19 (q := 22) rfl (shX1_0 hH.1) rfl ?_
    refine mh_aload_0 dX5_goOn_22 (q := 23) rfl ?_
    refine mh_getI fl_X5_22 dX5_goOn_23 (q := 26) rfl (shX5_0 hw.1) rfl ?_
    rw [g2]
    refine mh_aload_0 dX5_goOn_26 (q := 27) rfl ?_
    refine mh_getI fl_X5_25 dX5_goOn_27 (q := 30) rfl (shX5_0 hw.1) rfl ?_
    rw [g3]
    refine mh_callV3 ca_X5_goOn_30 (shX1_0 hH.1) (q := 33) rfl (by simp [Value.category]) ⟨Nat.zero_le _, Nat.zero_le _⟩ ?_
    refine sp_X1_firstOpen hH1 (shX1_1 hH.1) hp hr hc ?_
    rw [← wkCh_fo (sm := sm) (tm := u.2.2.2.2.2.2.2)]
    have c14b : (0 : Nat) = u.1 := c14.symm
    rw [c14b]
    rcases hch : (wkCh w h kd sm u.1 u.2.2.2.2.2.2.2 r u.2.2.2.1 3).1 with _ | d
    · skip
      dsimp only [onN]
      refine mh_goto dX5_goOn_33 (tgt := 41) rfl ?_
      refine mh_istore_2 dX5_goOn_41 (q := 42) rfl ?_
      refine mh_iload_2 dX5_goOn_42 (q := 43) rfl ?_
      refine mh_bipush (v := (-9)) dX5_goOn_43 (q := 45) rfl (by decide) ?_
      refine mh_icmp_ne dX5_goOn_45 (tgt := 49) (q := 48) rfl rfl (fun hh => False.elim (by revert hh; decide)) (fun _ => ?_)
      refine mh_return dX5_goOn_48 rfl ?_
      unfold wkStep at hΦ
      rw [er, nI_clamp (by omega), hch] at hΦ
      dsimp only at hΦ
      exact hΦ _ I (hw.up (by (repeat (first | rw [mhUF_at] | rw [mhUF_nk (by omega)])) <;> first | assumption | rfl) (by (repeat (first | rw [mhUF_at] | rw [mhUF_nk (by omega)])) <;> first | assumption | rfl) (by (repeat (first | rw [mhUF_at] | rw [mhUF_nk (by omega)])) <;> first | assumption | rfl) (by (repeat (first | rw [mhUF_at] | rw [mhUF_nk (by omega)])) <;> first | assumption | rfl) (by (repeat (first | rw [mhUF_at] | rw [mhUF_nk (by omega)])) <;> first | assumption | rfl) (by (repeat (first | rw [mhUF_at] | rw [mhUF_nk (by omega)])) <;> first | assumption | rfl) (by (repeat (first | rw [mhUF_at] | rw [mhUF_nk (by omega)])) <;> first | assumption | rfl) w10) hs (fun c k e => by (repeat rw [mhUF_ne e]); exact f1 c k (fun z => e z.1)) (fun _ _ _ _ => rfl)
    · skip
      have hd := (wkCh_lt hch).1
      have t1 := (gT1 hH.2.1 hr hd).2.1
      dsimp only [onN]
      refine mh_goto dX5_goOn_33 (tgt := 41) rfl ?_
      refine mh_istore_2 dX5_goOn_41 (q := 42) rfl ?_
      refine mh_iload_2 dX5_goOn_42 (q := 43) rfl ?_
      refine mh_bipush (v := (-9)) dX5_goOn_43 (q := 45) rfl (by decide) ?_
      refine mh_icmp_ne dX5_goOn_45 (tgt := 49) (q := 48) rfl rfl (fun _ => ?_) (fun hh => absurd hh (mh_n9 (by omega)))
      refine mh_aload_1 dX5_goOn_49 (q := 50) rfl ?_
      refine mh_aload_0 dX5_goOn_50 (q := 51) rfl ?_
      refine mh_getI fl_X5_22 dX5_goOn_51 (q := 54) rfl (shX5_0 hw.1) rfl ?_
      rw [g2]
      refine mh_iload_2 dX5_goOn_54 (q := 55) rfl ?_
      refine mh_callV2 ca_X5_goOn_55 (shX1_0 hH.1) (q := 58) rfl (by simp [Value.category]) ⟨Nat.zero_le _, Nat.zero_le _⟩ ?_
      refine sp_X1_sideOf hH1 hr hd ?_
      refine mh_istore_3 dX5_goOn_58 (q := 59) rfl ?_
      refine mh_aload_0 dX5_goOn_59 (q := 60) rfl ?_
      refine mh_getR fl_X5_9 dX5_goOn_60 (q := 63) rfl (shX5_0 hw.1) rfl ?_
      refine mh_iload_3 dX5_goOn_63 (q := 64) rfl ?_
      refine mh_dup2ir dX5_goOn_64 (q := 65) rfl ?_
      refine mh_iald dX5_goOn_65 (q := 66) rfl (shX5_1 hw.1) (vp_in_nI (by omega) (by decide)) ?_
      rw [w10 _ (by omega)]
      refine mh_iconst_1 dX5_goOn_66 (q := 67) rfl ?_
      refine mh_iadd dX5_goOn_67 (q := 68) rfl ?_
      refine mh_iast dX5_goOn_68 (q := 69) rfl (shX5_1 hw.1) (by decide) (vp_in_nI (by omega) (by decide)) ?_
      refine mh_aload_1 dX5_goOn_69 (q := 70) rfl ?_
      refine mh_getR fl_X5_31 dX5_goOn_70 (q := 73) rfl (shX1_0 hH.1) rfl ?_
      refine mh_iload_3 dX5_goOn_73 (q := 74) rfl ?_
      refine mh_iald dX5_goOn_74 (q := 75) rfl (shX1_1 hH.1) (vp_in_nI (by omega) (by decide)) ?_
      rw [mhUI_ne (by omega), hp _ t1]
      refine mh_iconst_1 dX5_goOn_75 (q := 76) rfl ?_
      refine mh_icmp_ne dX5_goOn_76 (tgt := 97) (q := 79) rfl rfl (fun c76 => ?_) (fun c76 => ?_)
      · skip
        refine mh_aload_0 dX5_goOn_97 (q := 98) rfl ?_
        refine mh_dupr dX5_goOn_98 (q := 99) rfl ?_
        refine mh_getI fl_X5_54 dX5_goOn_99 (q := 102) rfl (shX5_0 hw.1) rfl ?_
        rw [g4]
        refine mh_iconst_1 dX5_goOn_102 (q := 103) rfl ?_
        refine mh_iadd dX5_goOn_103 (q := 104) rfl ?_
        refine mh_putI (Or.inl fw_X5_54) rfl rfl dX5_goOn_104 (q := 107) rfl (shX5_0 hw.1) rfl ?_
        refine mh_aload_0 dX5_goOn_107 (q := 108) rfl ?_
        refine mh_aload_1 dX5_goOn_108 (q := 109) rfl ?_
        refine mh_aload_0 dX5_goOn_109 (q := 110) rfl ?_
        refine mh_getI fl_X5_22 dX5_goOn_110 (q := 113) rfl (shX5_0 hw.1) rfl ?_
        rw [show mhUF F1 b 4 (u.2.2.2.2.1 + 1) b 2 = nI r from (mhUF_nk (by omega)).trans g2]
        refine mh_iload_2 dX5_goOn_113 (q := 114) rfl ?_
        refine mh_callV2 ca_X5_goOn_114 (shX1_0 hH.1) (q := 117) rfl (by simp [Value.category]) ⟨Nat.zero_le _, Nat.zero_le _⟩ ?_
        refine sp_X1_behind (F := mhUF F1 b 4 (u.2.2.2.2.1 + 1)) (I := mhUI I (b + 1) (nI (gSide w h r d)) (u.2.2.2.2.2.2.2 (gSide w h r d) + 1)) ?_ hr hd ?_
        · obtain ⟨z1, z2, z3, z4, z5, z6, z7, z8, z9, z10, z11⟩ := hH1
          exact ⟨z1, z2, (mhUF_nk (by omega)).trans z3, (mhUF_nk (by omega)).trans z4, (mhUF_nk (by omega)).trans z5, (mhUF_nk (by omega)).trans z6, fun b hb j => (mhUI_ne (by omega)).trans (z7 b hb j), (mhUI_ne (by omega)).trans z8, (mhUI_ne (by omega)).trans z9, (mhUI_ne (by omega)).trans z10, z11⟩
        refine mh_putI (Or.inl fw_X5_22) rfl rfl dX5_goOn_117 (q := 120) rfl (shX5_0 hw.1) rfl ?_
        refine mh_aload_0 dX5_goOn_120 (q := 121) rfl ?_
        refine mh_iload_2 dX5_goOn_121 (q := 122) rfl ?_
        refine mh_putI (Or.inl fw_X5_25) rfl rfl dX5_goOn_122 (q := 125) rfl (shX5_0 hw.1) rfl ?_
        refine mh_return dX5_goOn_125 rfl ?_
        unfold wkStep at hΦ
        rw [er, nI_clamp (by omega), hch] at hΦ
        dsimp only at hΦ
        rw [if_neg c76] at hΦ
        exact hΦ _ _ (hw.up (by (repeat (first | rw [mhUF_at] | rw [mhUF_nk (by omega)])) <;> first | assumption | rfl) (by (repeat (first | rw [mhUF_at] | rw [mhUF_nk (by omega)])) <;> first | assumption | rfl) (by (repeat (first | rw [mhUF_at] | rw [mhUF_nk (by omega)])) <;> first | assumption | rfl) (by (repeat (first | rw [mhUF_at] | rw [mhUF_nk (by omega)])) <;> first | assumption | rfl) (by (repeat (first | rw [mhUF_at] | rw [mhUF_nk (by omega)])) <;> first | assumption | rfl) (by (repeat (first | rw [mhUF_at] | rw [mhUF_nk (by omega)])) <;> first | assumption | rfl) (by (repeat (first | rw [mhUF_at] | rw [mhUF_nk (by omega)])) <;> first | assumption | rfl) (fun k hk => by
          unfold upN
          dsimp only
          rw [mhUI_at (by omega) (by omega)]
          by_cases e : k = gSide w h r d
          · rw [if_pos ⟨rfl, e⟩, if_pos e]
          · rw [if_neg (fun z => e z.2), if_neg e]; exact w10 k hk)) (fun k hk => (mhUI_ne (by omega)).trans (hs k hk)) (fun c k e => by (repeat rw [mhUF_ne e]); exact f1 c k (fun z => e z.1)) (fun c y e1 e2 => mhUI_ne e1)
      · skip
        refine mh_aload_1 dX5_goOn_79 (q := 80) rfl ?_
        refine mh_getR fl_X5_48 dX5_goOn_80 (q := 83) rfl (shX1_0 hH.1) rfl ?_
        refine mh_iload_3 dX5_goOn_83 (q := 84) rfl ?_
        refine mh_iconst_1 dX5_goOn_84 (q := 85) rfl ?_
        refine mh_iast dX5_goOn_85 (q := 86) rfl (shX1_2 hH.1) (by decide) (vp_in_nI (by omega) (by decide)) ?_
        refine mh_aload_0 dX5_goOn_86 (q := 87) rfl ?_
        refine mh_dupr dX5_goOn_87 (q := 88) rfl ?_
        refine mh_getI fl_X5_51 dX5_goOn_88 (q := 91) rfl (shX5_0 hw.1) rfl ?_
        rw [g5]
        refine mh_iconst_1 dX5_goOn_91 (q := 92) rfl ?_
        refine mh_iadd dX5_goOn_92 (q := 93) rfl ?_
        refine mh_putI (Or.inl fw_X5_51) rfl rfl dX5_goOn_93 (q := 96) rfl (shX5_0 hw.1) rfl ?_
        refine mh_return dX5_goOn_96 rfl ?_
        unfold wkStep at hΦ
        rw [er, nI_clamp (by omega), hch] at hΦ
        dsimp only at hΦ
        rw [if_pos c76] at hΦ
        refine hΦ _ _ (hw.up (by (repeat (first | rw [mhUF_at] | rw [mhUF_nk (by omega)])) <;> first | assumption | rfl) (by (repeat (first | rw [mhUF_at] | rw [mhUF_nk (by omega)])) <;> first | assumption | rfl) (by (repeat (first | rw [mhUF_at] | rw [mhUF_nk (by omega)])) <;> first | assumption | rfl) (by (repeat (first | rw [mhUF_at] | rw [mhUF_nk (by omega)])) <;> first | assumption | rfl) (by (repeat (first | rw [mhUF_at] | rw [mhUF_nk (by omega)])) <;> first | assumption | rfl) (by (repeat (first | rw [mhUF_at] | rw [mhUF_nk (by omega)])) <;> first | assumption | rfl) (by (repeat (first | rw [mhUF_at] | rw [mhUF_nk (by omega)])) <;> first | assumption | rfl) (fun k hk => by
          unfold upN
          dsimp only
          rw [mhUI_ne (by omega), mhUI_at (by omega) (by omega)]
          by_cases e : k = gSide w h r d
          · rw [if_pos ⟨rfl, e⟩, if_pos e]
          · rw [if_neg (fun z => e z.2), if_neg e]; exact w10 k hk)) (fun k hk => ?_) (fun c k e => by (repeat rw [mhUF_ne e]); exact f1 c k (fun z => e z.1)) (fun c y e1 e2 => (mhUI_ne e2).trans (mhUI_ne e1))
        unfold upN
        dsimp only
        rw [mhUI_at (by omega) (by omega)]
        by_cases e : k = gSide w h r d
        · rw [if_pos ⟨rfl, e⟩, if_pos e]
        · rw [if_neg (fun z => e z.2), if_neg e, mhUI_ne (by omega)]; exact hs k hk
