/-! how far, by the class -/
/-- one more way opened to -/
def wid (w h : Nat) (kd : Nat → Int32) (f : Nat → Bool) (n r : Nat) : Prop := f r = true ∨ (r < gRooms w h ∧ ∃ e, e < n ∧ e < 3 ∧ kd (gSide w h r e) = 2 ∧ ¬ gB w h r e = -9 ∧ f (gB w h r e).toNatClampNeg = true)
theorem wid_s {w h : Nat} {kd : Nat → Int32} {f : Nat → Bool} {n r : Nat} (hn : n < 3) : wid w h kd f (n + 1) r ↔ wid w h kd f n r ∨ (r < gRooms w h ∧ kd (gSide w h r n) = 2 ∧ ¬ gB w h r n = -9 ∧ f (gB w h r n).toNatClampNeg = true) := by
  constructor
  · rintro (c | ⟨c1, e, c2, c3, c4, c5, c6⟩)
    · exact Or.inl (Or.inl c)
    · rcases Nat.lt_or_ge e n with q | q
      · exact Or.inl (Or.inr ⟨c1, e, q, c3, c4, c5, c6⟩)
      · obtain rfl : e = n := by omega
        exact Or.inr ⟨c1, c4, c5, c6⟩
  · rintro ((c | ⟨c1, e, c2, c3, c4, c5, c6⟩) | ⟨c1, c4, c5, c6⟩)
    · exact Or.inl c
    · exact Or.inr ⟨c1, e, by omega, c3, c4, c5, c6⟩
    · exact Or.inr ⟨c1, n, by omega, hn, c4, c5, c6⟩
set_option maxHeartbeats 4000000 in
set_option maxRecDepth 100000 in
theorem lp_X1_widened {l : Launch} {K : mhX} {kc ks : Nat} {Φ : mhQ} {S : List mhS} {F : mhF} {I : mhI} {J : mhJ} {P : mhP} {a w h : Nat} (hH : mhHs S F I a w h) {kd : Nat → Int32} (ho : opN w h (fun s => I (a + 8) (nI s)) kd) {x : Int32} (hΦ : ∀ y, (∀ r, r < 32 → (bt y r = true ↔ wid w h kd (bt x) 3 r)) → Φ (some (.int y)) S F I J P) : ∀ (m d : Nat) (y : Int32) (o4 o5 : Option Value), d + m = 3 → (∀ r, r < 32 → (bt y r = true ↔ wid w h kd (bt x) d r)) → mhV l K mX1_widened kc ks Φ 4 [some (.ref a), some (.int x), some (.int y), some (.int (nI d)), o4, o5] [] S F I J P := by
  intro m
  induction m with
  | zero =>
    intro d y o4 o5 hd hy
    obtain rfl : d = 3 := by omega
    refine mh_iload_3 dX1_widened_4 (q := 5) rfl ?_
    refine mh_iconst_3 dX1_widened_5 (q := 6) rfl ?_
    refine mh_icmp_ge dX1_widened_6 (tgt := 67) (q := 9) rfl rfl (fun _ => ?_) (fun hh => absurd (show (3 : Int32) ≤ nI 3 by decide) hh)
    refine mh_iload_2 dX1_widened_67 (q := 68) rfl ?_
    refine mh_ireturn dX1_widened_68 rfl rfl ?_
    exact hΦ y hy
  | succ m ih =>
    intro d y o4 o5 hd hy
    have hd3 : d < 3 := by omega
    have h9 := fun y o4 o5 => ih (d + 1) y o4 o5 (by omega)
    have ht := gTo_i hH hd3
    have hb := gTo_bd (e := d) hH.2.1.1 hH.2.1.2.1
    have htn : (-(I (a + 10) (nI d))).toInt = -gTo w d := by rw [Int32.toInt_neg, ht]; exact Int.bmod_eq_of_le (by omega) (by omega)
    refine mh_iload_3 dX1_widened_4 (q := 5) rfl ?_
    refine mh_iconst_3 dX1_widened_5 (q := 6) rfl ?_
    refine mh_icmp_ge dX1_widened_6 (tgt := 67) (q := 9) rfl rfl (fun hh => absurd hh (show ¬ (3 : Int32) ≤ nI d from nI_ge (b := 3) (by omega) (by decide))) (fun _ => ?_)
    refine mh_aload_0 dX1_widened_9 (q := 10) rfl ?_
    refine mh_getR fl_X1_46 dX1_widened_10 (q := 13) rfl (shX1_0 hH.1) rfl ?_
    refine mh_iload_3 dX1_widened_13 (q := 14) rfl ?_
    refine mh_iald dX1_widened_14 (q := 15) rfl (shX1_8 hH.1) (vp_in_nI (by omega) (by decide)) ?_
    refine mh_istore_4 dX1_widened_15 (q := 17) rfl ?_
    refine mh_iload_4 dX1_widened_17 (q := 19) rfl ?_
    refine mh_aload_0 dX1_widened_19 (q := 20) rfl ?_
    refine mh_getR fl_X1_52 dX1_widened_20 (q := 23) rfl (shX1_0 hH.1) rfl ?_
    refine mh_iload_3 dX1_widened_23 (q := 24) rfl ?_
    refine mh_iald dX1_widened_24 (q := 25) rfl (shX1_10 hH.1) (vp_in_nI (by omega) (by decide)) ?_
    refine mh_callS2 ca_X1_widened_25 (q := 28) rfl (by simp [Value.category]) ⟨Nat.zero_le _, Nat.zero_le _⟩ ?_
    refine sp_X1_moved ht hb.1 hb.2 (fun y1 hy1 => ?_)
    refine mh_istore_5 dX1_widened_28 (q := 30) rfl ?_
    refine mh_iload_2 dX1_widened_30 (q := 31) rfl ?_
    refine mh_iload_1 dX1_widened_31 (q := 32) rfl ?_
    refine mh_iload_4 dX1_widened_32 (q := 34) rfl ?_
    refine mh_iand dX1_widened_34 (q := 35) rfl ?_
    refine mh_aload_0 dX1_widened_35 (q := 36) rfl ?_
    refine mh_getR fl_X1_52 dX1_widened_36 (q := 39) rfl (shX1_0 hH.1) rfl ?_
    refine mh_iload_3 dX1_widened_39 (q := 40) rfl ?_
    refine mh_iald dX1_widened_40 (q := 41) rfl (shX1_10 hH.1) (vp_in_nI (by omega) (by decide)) ?_
    refine mh_callS2 ca_X1_widened_41 (q := 44) rfl (by simp [Value.category]) ⟨Nat.zero_le _, Nat.zero_le _⟩ ?_
    refine sp_X1_moved ht hb.1 hb.2 (fun y2 hy2 => ?_)
    refine mh_iload_1 dX1_widened_44 (q := 45) rfl ?_
    refine mh_iload_5 dX1_widened_45 (q := 47) rfl ?_
    refine mh_iand dX1_widened_47 (q := 48) rfl ?_
    refine mh_aload_0 dX1_widened_48 (q := 49) rfl ?_
    refine mh_getR fl_X1_52 dX1_widened_49 (q := 52) rfl (shX1_0 hH.1) rfl ?_
    refine mh_iload_3 dX1_widened_52 (q := 53) rfl ?_
    refine mh_iald dX1_widened_53 (q := 54) rfl (shX1_10 hH.1) (vp_in_nI (by omega) (by decide)) ?_
    refine mh_ineg dX1_widened_54 (q := 55) rfl ?_
    refine mh_callS2 ca_X1_widened_55 (q := 58) rfl (by simp [Value.category]) ⟨Nat.zero_le _, Nat.zero_le _⟩ ?_
    refine sp_X1_moved htn (by omega) (by omega) (fun y3 hy3 => ?_)
    refine mh_ior dX1_widened_58 (q := 59) rfl ?_
    refine mh_ior dX1_widened_59 (q := 60) rfl ?_
    refine mh_istore_2 dX1_widened_60 (q := 61) rfl ?_
    refine mh_iinc_3 (v := 1) dX1_widened_61 (q := 64) rfl (by decide) ?_
    refine mh_goto dX1_widened_64 (tgt := 4) rfl ?_
    rw [nI_1]
    refine h9 _ _ _ (fun r hr => ?_)
    rw [wid_s hd3, bt_or, bt_or, Bool.or_eq_true, Bool.or_eq_true, hy r hr, ← wid_1 hH.2.1 ho hr hd3 (f := bt x)]
    rw [hy2 r hr, hy3 r hr]
    rw [mv_congr (f := bt (x &&& I (a + 8) (nI d))) (f' := fun i => bt x i && bt (I (a + 8) (nI d)) i) (fun i _ => bt_and)]
    rw [mv_congr (f := bt (x &&& y1)) (f' := fun i => bt x i && mv (bt (I (a + 8) (nI d))) (gTo w d) i) (fun i hi => by rw [bt_and, hy1 i hi])]
set_option maxHeartbeats 4000000 in
set_option maxRecDepth 100000 in
theorem sp_X1_widened {l : Launch} {K : mhX} {Φ : mhQ} {S : List mhS} {F : mhF} {I : mhI} {J : mhJ} {P : mhP} {a w h : Nat} (hH : mhHs S F I a w h) {kd : Nat → Int32} (ho : opN w h (fun s => I (a + 8) (nI s)) kd) {x : Int32} (hΦ : ∀ y, (∀ r, r < 32 → (bt y r = true ↔ wid w h kd (bt x) 3 r)) → Φ (some (.int y)) S F I J P) : mhOk l K mX1_widened [.ref a, .int x] S F I J P Φ := by
  refine mhOk.of (by decide) (by decide) rfl (Nat.le_of_ble_eq_true rfl) ?_
  refine mh_iload_1 dX1_widened_0 (q := 1) rfl ?_
  refine mh_istore_2 dX1_widened_1 (q := 2) rfl ?_
  refine mh_iconst_0 dX1_widened_2 (q := 3) rfl ?_
  refine mh_istore_3 dX1_widened_3 (q := 4) rfl ?_
  refine lp_X1_widened (kc := mX1_widened.2.2.2.2.cells) (ks := mX1_widened.2.2.2.2.slots) hH ho hΦ 3 0 x _ _ rfl (fun r hr => ⟨fun e => Or.inl e, fun e => e.elim id (fun z => ?_)⟩)
  obtain ⟨_, e, z, _⟩ := z
  exact absurd z (Nat.not_lt_zero e)
theorem wid_wy {w h : Nat} {kd : Nat → Int32} (g : gOk w h) {f : Nat → Bool} {n r : Nat} (hn : 1 ≤ n) (hr : r < 32) (hf : ∀ r, r < 32 → (f r = true ↔ r < gRooms w h ∧ wy w h kd n r)) : wid w h kd f 3 r ↔ r < gRooms w h ∧ wy w h kd (n + 1) r := by
  have hb := gBd g
  constructor
  · rintro (c | ⟨c1, e, _, c3, c4, c5, c6⟩)
    · have := (hf r hr).mp c
      exact ⟨this.1, wy_mono this.2⟩
    · have q := gB_nat g c1 c3 c5
      exact ⟨c1, e, c3, c4, Or.inr ((hf _ (by omega)).mp c6).2⟩
  · rintro ⟨c1, e, c3, c4, c5⟩
    by_cases z : gB w h r e = -9
    · refine Or.inl ((hf r hr).mpr ⟨c1, ?_⟩)
      rw [show n = (n - 1) + 1 by omega]
      exact ⟨e, c3, c4, Or.inl z⟩
    · have q := gB_nat g c1 c3 z
      exact Or.inr ⟨c1, e, c3, c3, c4, z, (hf _ (by omega)).mpr ⟨q.1, c5.resolve_left z⟩⟩
set_option maxHeartbeats 4000000 in
set_option maxRecDepth 100000 in
theorem lp_X1_roomsWithin {l : Launch} {K : mhX} {kc ks : Nat} {Φ : mhQ} {S : List mhS} {F : mhF} {I : mhI} {J : mhJ} {P : mhP} {a w h : Nat} (hH : mhHs S F I a w h) {kd : Nat → Int32} (ho : opN w h (fun s => I (a + 8) (nI s)) kd) {n : Nat} (hn : n < 2 ^ 31) (hΦ : ∀ y, (∀ r, r < 32 → (bt y r = true ↔ r < gRooms w h ∧ wy w h kd n r)) → Φ (some (.int y)) S F I J P) : ∀ (m i : Nat) (y : Int32) (o4 : Option Value), i + m = n → 1 ≤ i → (∀ r, r < 32 → (bt y r = true ↔ r < gRooms w h ∧ wy w h kd i r)) → mhV l K mX1_roomsWithin kc ks Φ 9 [some (.ref a), some (.int (nI n)), some (.int y), some (.int (nI i)), o4] [] S F I J P := by
  intro m
  induction m with
  | zero =>
    intro i y o4 hi h1 hy
    obtain rfl : i = n := by omega
    refine mh_iload_3 dX1_roomsWithin_9 (q := 10) rfl ?_
    refine mh_iload_1 dX1_roomsWithin_10 (q := 11) rfl ?_
    refine mh_icmp_ge dX1_roomsWithin_11 (tgt := 38) (q := 14) rfl rfl (fun _ => ?_) (fun hh => absurd (nI_le (Nat.le_refl _) (by omega)) hh)
    refine mh_iload_2 dX1_roomsWithin_38 (q := 39) rfl ?_
    refine mh_ireturn dX1_roomsWithin_39 rfl rfl ?_
    exact hΦ y hy
  | succ m ih =>
    intro i y o4 hi h1 hy
    refine mh_iload_3 dX1_roomsWithin_9 (q := 10) rfl ?_
    refine mh_iload_1 dX1_roomsWithin_10 (q := 11) rfl ?_
    refine mh_icmp_ge dX1_roomsWithin_11 (tgt := 38) (q := 14) rfl rfl (fun hh => absurd hh (nI_ge (by omega) (by omega))) (fun _ => ?_)
    refine mh_aload_0 dX1_roomsWithin_14 (q := 15) rfl ?_
    refine mh_iload_2 dX1_roomsWithin_15 (q := 16) rfl ?_
    refine mh_callV1 ca_X1_roomsWithin_16 (shX1_0 hH.1) (q := 19) rfl (by simp [Value.category]) ⟨Nat.zero_le _, Nat.zero_le _⟩ ?_
    refine sp_X1_widened hH ho (fun z hz => ?_)
    have hz2 : ∀ r, r < 32 → (bt z r = true ↔ r < gRooms w h ∧ wy w h kd (i + 1) r) := fun r hr => (hz r hr).trans (wid_wy hH.2.1 h1 hr hy)
    refine mh_istore_4 dX1_roomsWithin_19 (q := 21) rfl ?_
    refine mh_iload_4 dX1_roomsWithin_21 (q := 23) rfl ?_
    refine mh_iload_2 dX1_roomsWithin_23 (q := 24) rfl ?_
    refine mh_icmp_ne dX1_roomsWithin_24 (tgt := 29) (q := 27) rfl rfl (fun c24 => ?_) (fun c24 => ?_)
    · skip
      refine mh_iload_4 dX1_roomsWithin_29 (q := 31) rfl ?_
      refine mh_istore_2 dX1_roomsWithin_31 (q := 32) rfl ?_
      refine mh_iinc_3 (v := 1) dX1_roomsWithin_32 (q := 35) rfl (by decide) ?_
      refine mh_goto dX1_roomsWithin_35 (tgt := 9) rfl ?_
      rw [nI_1]
      exact ih (i + 1) z _ (by omega) (by omega) hz2
    · skip
      refine mh_iload_2 dX1_roomsWithin_27 (q := 28) rfl ?_
      refine mh_ireturn dX1_roomsWithin_28 rfl rfl ?_
      subst c24
      refine hΦ _ (fun r hr => ?_)
      rw [hy r hr]
      have st : ∀ r, r < gRooms w h → wy w h kd (i + 1) r → wy w h kd i r := fun x hx q => by
        have hb := gBd hH.2.1
        exact ((hy x (by omega)).mp ((hz2 x (by omega)).mpr ⟨hx, q⟩)).2
      refine ⟨fun q => ⟨q.1, wy_le q.2 (by omega)⟩, fun q => ⟨q.1, wy_stab hH.2.1 st (n - i) r q.1 ?_⟩⟩
      rw [show i + (n - i) = n by omega]
      exact q.2
set_option maxHeartbeats 4000000 in
set_option maxRecDepth 100000 in
theorem sp_X1_roomsWithin {l : Launch} {K : mhX} {Φ : mhQ} {S : List mhS} {F : mhF} {I : mhI} {J : mhJ} {P : mhP} {a w h : Nat} (hH : mhHs S F I a w h) {kd : Nat → Int32} (ho : opN w h (fun s => I (a + 8) (nI s)) kd) {n : Nat} (h1 : 1 ≤ n) (hn : n < 2 ^ 31) (hΦ : ∀ y, (∀ r, r < 32 → (bt y r = true ↔ r < gRooms w h ∧ wy w h kd n r)) → Φ (some (.int y)) S F I J P) : mhOk l K mX1_roomsWithin [.ref a, .int (nI n)] S F I J P Φ := by
  refine mhOk.of (by decide) (by decide) rfl (Nat.le_of_ble_eq_true rfl) ?_
  refine mh_aload_0 dX1_roomsWithin_0 (q := 1) rfl ?_
  refine mh_getR fl_X1_46 dX1_roomsWithin_1 (q := 4) rfl (shX1_0 hH.1) rfl ?_
  refine mh_iconst_3 dX1_roomsWithin_4 (q := 5) rfl ?_
  refine mh_iald dX1_roomsWithin_5 (q := 6) rfl (shX1_8 hH.1) (vp_in_nI (n := 3) (by decide) (by decide)) ?_
  refine mh_istore_2 dX1_roomsWithin_6 (q := 7) rfl ?_
  refine mh_iconst_1 dX1_roomsWithin_7 (q := 8) rfl ?_
  refine mh_istore_3 dX1_roomsWithin_8 (q := 9) rfl ?_
  refine lp_X1_roomsWithin (kc := mX1_roomsWithin.2.2.2.2.cells) (ks := mX1_roomsWithin.2.2.2.2.slots) hH ho hn hΦ (n - 1) 1 _ _ (by omega) (Nat.le_refl 1) (fun r hr => ?_)
  have e := opN_b hH.2.1 ho hr
  rw [show I (a + 8) (3 : Int32) = I (a + 8) (nI 3) from rfl, e]
  exact ⟨fun z => ⟨z.1, z.2.imp (fun e y => ⟨y.1, y.2.1, Or.inl y.2.2⟩)⟩, fun z => ⟨z.1, z.2.imp (fun e y => ⟨y.1, y.2.1, y.2.2.resolve_right id⟩)⟩⟩
/-- how far it is -/
def faA (w h : Nat) (kd : Nat → Int32) (r : Nat) (y : Int32) : Prop := (∃ d, d ≤ gRooms w h ∧ y = nI (d + 1) ∧ wy w h kd (d + 1) r ∧ ¬ wy w h kd d r) ∨ (y = -9 ∧ ∀ d, ¬ wy w h kd d r)
theorem faA_un {w h : Nat} {kd : Nat → Int32} {r : Nat} {y y' : Int32} (h1 : faA w h kd r y) (h2 : faA w h kd r y') : y = y' := by
  rcases h1 with ⟨d, l1, e1, a1, b1⟩ | ⟨e1, a1⟩
  · rcases h2 with ⟨d', l2, e2, a2, b2⟩ | ⟨e2, a2⟩
    · have : d = d' := by
        rcases Nat.lt_trichotomy d d' with q | q | q
        · exact absurd (wy_le a1 (show d + 1 ≤ d' by omega)) b2
        · exact q
        · exact absurd (wy_le a2 (show d' + 1 ≤ d by omega)) b1
      rw [e1, e2, this]
    · exact absurd a1 (a2 _)
  · rcases h2 with ⟨d', l2, e2, a2, b2⟩ | ⟨e2, a2⟩
    · exact absurd a2 (a1 _)
    · rw [e1, e2]
/-- the first room from which one cannot come out -/
def shA (w h : Nat) (kd : Nat → Int32) (y : Int32) : Prop := (∃ r, r < gRooms w h ∧ y = nI r ∧ (∀ d, ¬ wy w h kd d r) ∧ ∀ x, x < r → ∃ d, wy w h kd d x) ∨ (y = -9 ∧ ∀ r, r < gRooms w h → ∃ d, wy w h kd d r)
theorem shA_un {w h : Nat} {kd : Nat → Int32} {y y' : Int32} (h1 : shA w h kd y) (h2 : shA w h kd y') : y = y' := by
  rcases h1 with ⟨r, l1, e1, a1, b1⟩ | ⟨e1, a1⟩
  · rcases h2 with ⟨r', l2, e2, a2, b2⟩ | ⟨e2, a2⟩
    · have : r = r' := by
        rcases Nat.lt_trichotomy r r' with q | q | q
        · obtain ⟨d, z⟩ := b2 r q; exact absurd z (a1 d)
        · exact q
        · obtain ⟨d, z⟩ := b1 r' q; exact absurd z (a2 d)
      rw [e1, e2, this]
    · obtain ⟨d, z⟩ := a2 r l1; exact absurd z (a1 d)
  · rcases h2 with ⟨r', l2, e2, a2, b2⟩ | ⟨e2, a2⟩
    · obtain ⟨d, z⟩ := a1 r' l2; exact absurd z (a2 d)
    · rw [e1, e2]
/-- all can come out -/
def fair (w h : Nat) (kd : Nat → Int32) : Prop := ∀ r, r < gRooms w h → ∃ d, wy w h kd d r
/-- all are near -/
def near (w h : Nat) (kd : Nat → Int32) (d : Nat) : Prop := ∀ r, r < gRooms w h → wy w h kd d r
theorem fair_near {w h : Nat} {kd : Nat → Int32} (g : gOk w h) : fair w h kd ↔ near w h kd (gRooms w h) := ⟨fun z r hr => by obtain ⟨d, q⟩ := z r hr; exact wy_fix g hr q, fun z r hr => ⟨_, z r hr⟩⟩
theorem near_all {w h : Nat} {kd : Nat → Int32} (g : gOk w h) {y : Int32} {d : Nat} (hy : ∀ r, r < 32 → (bt y r = true ↔ r < gRooms w h ∧ wy w h kd d r)) : y = (1 <<< (nI (gRooms w h) &&& 31)) - 1 ↔ near w h kd d := by
  have hb := gBd g
  constructor
  · rintro rfl r hr
    exact ((hy r (by omega)).mp (by rw [bt_all (by omega) (by omega)]; exact decide_eq_true hr)).2
  · intro z
    refine bt_ext (fun r hr => ?_)
    rw [bt_all (by omega) hr, Bool.eq_iff_iff, hy r hr, decide_eq_true_eq]
    exact ⟨fun q => q.1, fun q => ⟨q, z r q⟩⟩
set_option maxHeartbeats 4000000 in
set_option maxRecDepth 100000 in
theorem lp_X1_howFar {l : Launch} {K : mhX} {kc ks : Nat} {Φ : mhQ} {S : List mhS} {F : mhF} {I : mhI} {J : mhJ} {P : mhP} {a w h : Nat} (hH : mhHs S F I a w h) {kd : Nat → Int32} (ho : opN w h (fun s => I (a + 8) (nI s)) kd) {r : Nat} (hr : r < gRooms w h) (hΦ : ∀ y, faA w h kd r y → Φ (some (.int y)) S F I J P) : ∀ (m d : Nat), d + m = gRooms w h → ¬ wy w h kd d r → mhV l K mX1_howFar kc ks Φ 10 [some (.ref a), some (.int (nI r)), some (.int (nI (d + 1)))] [] S F I J P := by
  have hbd := gBd hH.2.1
  intro m
  induction m with
  | zero =>
    intro d hd hn
    obtain rfl : d = gRooms w h := by omega
    refine mh_iload_2 dX1_howFar_10 (q := 11) rfl ?_
    refine mh_aload_0 dX1_howFar_11 (q := 12) rfl ?_
    refine mh_getI fl_X1_61 dX1_howFar_12 (q := 15) rfl (shX1_0 hH.1) rfl ?_
    rw [hH.2.2.2.2.1]
    refine mh_icmp_gt dX1_howFar_15 (tgt := 39) (q := 18) rfl rfl (fun _ => ?_) (fun hh => absurd (show nI (gRooms w h) < nI (gRooms w h + 1) from nI_lt (by omega) (by omega)) hh)
    refine mh_bipush (v := (-9)) dX1_howFar_39 (q := 41) rfl (by decide) ?_
    refine mh_ireturn dX1_howFar_41 rfl rfl ?_
    exact hΦ _ (Or.inr ⟨rfl, fun d z => hn (wy_fix hH.2.1 hr z)⟩)
  | succ m ih =>
    intro d hd hn
    refine mh_iload_2 dX1_howFar_10 (q := 11) rfl ?_
    refine mh_aload_0 dX1_howFar_11 (q := 12) rfl ?_
    refine mh_getI fl_X1_61 dX1_howFar_12 (q := 15) rfl (shX1_0 hH.1) rfl ?_
    rw [hH.2.2.2.2.1]
    refine mh_icmp_gt dX1_howFar_15 (tgt := 39) (q := 18) rfl rfl (fun hh => absurd hh (show ¬ nI (gRooms w h) < nI (d + 1) from Int32.not_lt.mpr ((nI_leI (by omega) (by omega)).mpr (by omega)))) (fun _ => ?_)
    refine mh_aload_0 dX1_howFar_18 (q := 19) rfl ?_
    refine mh_iload_2 dX1_howFar_19 (q := 20) rfl ?_
    refine mh_callV1 ca_X1_howFar_20 (shX1_0 hH.1) (q := 23) rfl (by simp [Value.category]) ⟨Nat.zero_le _, Nat.zero_le _⟩ ?_
    refine sp_X1_roomsWithin hH ho (n := d + 1) (by omega) (by omega) (fun y hy => ?_)
    refine mh_iload_1 dX1_howFar_23 (q := 24) rfl ?_
    refine mh_ishr dX1_howFar_24 (q := 25) rfl ?_
    refine mh_iconst_1 dX1_howFar_25 (q := 26) rfl ?_
    refine mh_iand dX1_howFar_26 (q := 27) rfl ?_
    rw [bt_shr (by omega)]
    refine mh_iconst_1 dX1_howFar_27 (q := 28) rfl ?_
    refine mh_icmp_ne dX1_howFar_28 (tgt := 33) (q := 31) rfl rfl (fun c28 => ?_) (fun c28 => ?_)
    · skip
      refine mh_iinc_2 (v := 1) dX1_howFar_33 (q := 36) rfl (by decide) ?_
      refine mh_goto dX1_howFar_36 (tgt := 10) rfl ?_
      rw [nI_1]
      refine ih (d + 1) (by omega) (fun z => c28 ?_)
      rw [if_pos ((hy r (by omega)).mpr ⟨hr, z⟩)]
    · skip
      refine mh_iload_2 dX1_howFar_31 (q := 32) rfl ?_
      refine mh_ireturn dX1_howFar_32 rfl rfl ?_
      have hw : wy w h kd (d + 1) r := by
        refine ((hy r (by omega)).mp (Decidable.byContradiction (fun z => ?_))).2
        rw [if_neg z] at c28
        exact absurd c28 (by decide)
      exact hΦ _ (Or.inl ⟨d, by omega, rfl, hw, hn⟩)
set_option maxHeartbeats 4000000 in
set_option maxRecDepth 100000 in
theorem sp_X1_howFar {l : Launch} {K : mhX} {Φ : mhQ} {S : List mhS} {F : mhF} {I : mhI} {J : mhJ} {P : mhP} {a w h : Nat} (hH : mhHs S F I a w h) {kd : Nat → Int32} (hp : mhPn I a w h kd) {r : Nat} (hr : r < gRooms w h) (hΦ : ∀ (y : Int32) (I2 : mhI), faA w h kd r y → frH a F I F I2 → Φ (some (.int y)) S F I2 J P) : mhOk l K mX1_howFar [.ref a, .int (nI r)] S F I J P Φ := by
  refine mhOk.of (by decide) (by decide) rfl (Nat.le_of_ble_eq_true rfl) ?_
  refine mh_aload_0 dX1_howFar_0 (q := 1) rfl ?_
  refine mh_aload_0 dX1_howFar_1 (q := 2) rfl ?_
  refine mh_getR fl_X1_9 dX1_howFar_2 (q := 5) rfl (shX1_0 hH.1) rfl ?_
  refine mh_callV1 ca_X1_howFar_5 (shX1_0 hH.1) (q := 8) rfl (by simp [Value.category]) ⟨Nat.zero_le _, Nat.zero_le _⟩ ?_
  refine sp_X1_openBy hH (shX1_1 hH.1) (by omega) hp (fun I1 ho hf1 => ?_)
  have hfr : frH a F I F I1 := ⟨fun _ _ _ => rfl, fun c y hc => hf1 c y (by omega)⟩
  have hH0 := hH
  replace hH := hH.frh hfr
  refine mh_iconst_1 dX1_howFar_8 (q := 9) rfl ?_
  refine mh_istore_2 dX1_howFar_9 (q := 10) rfl ?_
  exact lp_X1_howFar hH ho hr (fun y hy => hΦ y I1 hy hfr) (gRooms w h) 0 (Nat.zero_add _) id
set_option maxHeartbeats 4000000 in
set_option maxRecDepth 100000 in
theorem lp_X1_firstShut {l : Launch} {K : mhX} {kc ks : Nat} {Φ : mhQ} {S : List mhS} {F : mhF} {I : mhI} {J : mhJ} {P : mhP} {a w h : Nat} (hH : mhHs S F I a w h) {kd : Nat → Int32} {y : Int32} (hy : (∀ r, r < 32 → (bt y r = true ↔ r < gRooms w h ∧ wy w h kd (gRooms w h) r))) (hΦ : ∀ z, shA w h kd z → Φ (some (.int z)) S F I J P) : ∀ (m r : Nat), r + m = gRooms w h → (∀ x, x < r → ∃ d, wy w h kd d x) → mhV l K mX1_firstShut kc ks Φ 19 [some (.ref a), some (.int y), some (.int (nI r))] [] S F I J P := by
  have hbd := gBd hH.2.1
  intro m
  induction m with
  | zero =>
    intro r hd hx
    obtain rfl : r = gRooms w h := by omega
    refine mh_iload_2 dX1_firstShut_19 (q := 20) rfl ?_
    refine mh_aload_0 dX1_firstShut_20 (q := 21) rfl ?_
    refine mh_getI fl_X1_61 dX1_firstShut_21 (q := 24) rfl (shX1_0 hH.1) rfl ?_
    rw [hH.2.2.2.2.1]
    refine mh_icmp_ge dX1_firstShut_24 (tgt := 43) (q := 27) rfl rfl (fun _ => ?_) (fun hh => absurd (nI_le (Nat.le_refl _) (by omega)) hh)
    refine mh_bipush (v := (-9)) dX1_firstShut_43 (q := 45) rfl (by decide) ?_
    refine mh_ireturn dX1_firstShut_45 rfl rfl ?_
    exact hΦ _ (Or.inr ⟨rfl, hx⟩)
  | succ m ih =>
    intro r hd hx
    refine mh_iload_2 dX1_firstShut_19 (q := 20) rfl ?_
    refine mh_aload_0 dX1_firstShut_20 (q := 21) rfl ?_
    refine mh_getI fl_X1_61 dX1_firstShut_21 (q := 24) rfl (shX1_0 hH.1) rfl ?_
    rw [hH.2.2.2.2.1]
    refine mh_icmp_ge dX1_firstShut_24 (tgt := 43) (q := 27) rfl rfl (fun hh => absurd hh (nI_ge (by omega) (by omega))) (fun _ => ?_)
    refine mh_iload_1 dX1_firstShut_27 (q := 28) rfl ?_
    refine mh_iload_2 dX1_firstShut_28 (q := 29) rfl ?_
    refine mh_ishr dX1_firstShut_29 (q := 30) rfl ?_
    refine mh_iconst_1 dX1_firstShut_30 (q := 31) rfl ?_
    refine mh_iand dX1_firstShut_31 (q := 32) rfl ?_
    rw [bt_shr (by omega)]
    refine mh_if_ne dX1_firstShut_32 (tgt := 37) (q := 35) rfl rfl (fun c32 => ?_) (fun c32 => ?_)
    · skip
      refine mh_iinc_2 (v := 1) dX1_firstShut_37 (q := 40) rfl (by decide) ?_
      refine mh_goto dX1_firstShut_40 (tgt := 19) rfl ?_
      rw [nI_1]
      refine ih (r + 1) (by omega) (fun x hx2 => ?_)
      rcases Nat.lt_or_ge x r with q | q
      · exact hx x q
      · obtain rfl : x = r := by omega
        refine ⟨gRooms w h, ((hy x (by omega)).mp (Decidable.byContradiction (fun z => c32 ?_))).2⟩
        rw [if_neg z]
    · skip
      refine mh_iload_2 dX1_firstShut_35 (q := 36) rfl ?_
      refine mh_ireturn dX1_firstShut_36 rfl rfl ?_
      exact hΦ _ (Or.inl ⟨r, by omega, rfl, fun d z => by
        rw [if_pos ((hy r (by omega)).mpr ⟨by omega, wy_fix hH.2.1 (by omega) z⟩)] at c32
        exact absurd c32 (by decide), hx⟩)
set_option maxHeartbeats 4000000 in
set_option maxRecDepth 100000 in
theorem sp_X1_firstShut {l : Launch} {K : mhX} {Φ : mhQ} {S : List mhS} {F : mhF} {I : mhI} {J : mhJ} {P : mhP} {a w h : Nat} (hH : mhHs S F I a w h) {kd : Nat → Int32} (hp : mhPn I a w h kd) (hΦ : ∀ (y : Int32) (I2 : mhI), shA w h kd y → frH a F I F I2 → Φ (some (.int y)) S F I2 J P) : mhOk l K mX1_firstShut [.ref a] S F I J P Φ := by
  refine mhOk.of (by decide) (by decide) rfl (Nat.le_of_ble_eq_true rfl) ?_
  have hbd := gBd hH.2.1
  refine mh_aload_0 dX1_firstShut_0 (q := 1) rfl ?_
  refine mh_aload_0 dX1_firstShut_1 (q := 2) rfl ?_
  refine mh_getR fl_X1_9 dX1_firstShut_2 (q := 5) rfl (shX1_0 hH.1) rfl ?_
  refine mh_callV1 ca_X1_firstShut_5 (shX1_0 hH.1) (q := 8) rfl (by simp [Value.category]) ⟨Nat.zero_le _, Nat.zero_le _⟩ ?_
  refine sp_X1_openBy hH (shX1_1 hH.1) (by omega) hp (fun I1 ho hf1 => ?_)
  have hfr : frH a F I F I1 := ⟨fun _ _ _ => rfl, fun c y hc => hf1 c y (by omega)⟩
  have hH0 := hH
  replace hH := hH.frh hfr
  refine mh_aload_0 dX1_firstShut_8 (q := 9) rfl ?_
  refine mh_aload_0 dX1_firstShut_9 (q := 10) rfl ?_
  refine mh_getI fl_X1_61 dX1_firstShut_10 (q := 13) rfl (shX1_0 hH.1) rfl ?_
  rw [hH.2.2.2.2.1]
  refine mh_callV1 ca_X1_firstShut_13 (shX1_0 hH.1) (q := 16) rfl (by simp [Value.category]) ⟨Nat.zero_le _, Nat.zero_le _⟩ ?_
  refine sp_X1_roomsWithin hH ho (n := gRooms w h) (by omega) (by omega) (fun y hy => ?_)
  refine mh_istore_1 dX1_firstShut_16 (q := 17) rfl ?_
  refine mh_iconst_0 dX1_firstShut_17 (q := 18) rfl ?_
  refine mh_istore_2 dX1_firstShut_18 (q := 19) rfl ?_
  exact lp_X1_firstShut hH hy (fun z hz => hΦ z I1 hz hfr) (gRooms w h) 0 (Nat.zero_add _) (fun x hx => absurd hx (Nat.not_lt_zero x))
set_option maxHeartbeats 4000000 in
set_option maxRecDepth 100000 in
theorem sp_X1_isTrialFair {l : Launch} {K : mhX} {Φ : mhQ} {S : List mhS} {F : mhF} {I : mhI} {J : mhJ} {P : mhP} {a w h : Nat} (hH : mhHs S F I a w h) {kd : Nat → Int32} (hp : ∀ k, k < gSides w h → I (a + 7) (nI k) = kd k) (ht : fair w h kd → ∀ I2 : mhI, frH a F I F I2 → (∀ y, I2 (a + 7) y = I (a + 7) y) → Φ (some (.int 1)) S F I2 J P) (hf : ¬ fair w h kd → ∀ I2 : mhI, frH a F I F I2 → (∀ y, I2 (a + 7) y = I (a + 7) y) → Φ (some (.int 0)) S F I2 J P) : mhOk l K mX1_isTrialFair [.ref a] S F I J P Φ := by
  refine mhOk.of (by decide) (by decide) rfl (Nat.le_of_ble_eq_true rfl) ?_
  have hbd := gBd hH.2.1
  refine mh_aload_0 dX1_isTrialFair_0 (q := 1) rfl ?_
  refine mh_aload_0 dX1_isTrialFair_1 (q := 2) rfl ?_
  refine mh_getR fl_X1_43 dX1_isTrialFair_2 (q := 5) rfl (shX1_0 hH.1) rfl ?_
  refine mh_callV1 ca_X1_isTrialFair_5 (shX1_0 hH.1) (q := 8) rfl (by simp [Value.category]) ⟨Nat.zero_le _, Nat.zero_le _⟩ ?_
  refine sp_X1_openBy hH (shX1_7 hH.1) (by omega) hp (fun I1 ho hf1 => ?_)
  have hfr : frH a F I F I1 := ⟨fun _ _ _ => rfl, fun c y hc => hf1 c y (by omega)⟩
  have hH0 := hH
  replace hH := hH.frh hfr
  refine mh_aload_0 dX1_isTrialFair_8 (q := 9) rfl ?_
  refine mh_aload_0 dX1_isTrialFair_9 (q := 10) rfl ?_
  refine mh_getI fl_X1_61 dX1_isTrialFair_10 (q := 13) rfl (shX1_0 hH.1) rfl ?_
  rw [hH.2.2.2.2.1]
  refine mh_callV1 ca_X1_isTrialFair_13 (shX1_0 hH.1) (q := 16) rfl (by simp [Value.category]) ⟨Nat.zero_le _, Nat.zero_le _⟩ ?_
  refine sp_X1_roomsWithin hH ho (n := gRooms w h) (by omega) (by omega) (fun y hy => ?_)
  refine mh_aload_0 dX1_isTrialFair_16 (q := 17) rfl ?_
  refine mh_callV0 ca_X1_isTrialFair_17 (shX1_0 hH.1) (q := 20) rfl (by simp [Value.category]) ⟨Nat.zero_le _, Nat.zero_le _⟩ ?_
  refine sp_X1_allRooms hH ?_
  rw [fair_near hH.2.1] at ht hf
  have hna := near_all hH.2.1 hy
  refine mh_icmp_ne dX1_isTrialFair_20 (tgt := 27) (q := 23) rfl rfl (fun c20 => ?_) (fun c20 => ?_)
  · skip
    refine mh_iconst_0 dX1_isTrialFair_27 (q := 28) rfl ?_
    refine mh_ireturn dX1_isTrialFair_28 rfl rfl ?_
    exact hf (fun z => c20 (hna.mpr z)) I1 hfr (fun y => hf1 _ y (by omega))
  · skip
    refine mh_iconst_1 dX1_isTrialFair_23 (q := 24) rfl ?_
    refine mh_goto dX1_isTrialFair_24 (tgt := 28) rfl ?_
    refine mh_ireturn dX1_isTrialFair_28 rfl rfl ?_
    exact ht (hna.mp c20) I1 hfr (fun y => hf1 _ y (by omega))
set_option maxHeartbeats 4000000 in
set_option maxRecDepth 100000 in
theorem sp_X6_far {l : Launch} {K : mhX} {Φ : mhQ} {S : List mhS} {F : mhF} {I : mhI} {J : mhJ} {P : mhP} {nh : Nat} {wd hg aH : Nat → Nat} (hC : mhHC S F I P nh wd hg aH) {kd : Nat → Nat → Int32} (hK : ∀ j, j < nh → mhPn I (aH j) (wd j) (hg j) (kd j)) {x y : Int32} (hn : ¬ vHR nh wd hg x y → Φ (some (.int (-1))) S F I J P) (ht : ∀ j r, j < nh → r < gRooms (wd j) (hg j) → x = nI j → y = nI r → ∀ (z : Int32) (I2 : mhI), faA (wd j) (hg j) (kd j) r z → frH (aH j) F I F I2 → Φ (some (.int z)) S F I2 J P) : mhOk l K mX6_far [.ref 0, .int x, .int y] S F I J P Φ := by
  refine mhOk.of (by decide) (by decide) rfl (Nat.le_of_ble_eq_true rfl) ?_
  refine mh_aload_0 dX6_far_0 (q := 1) rfl ?_
  refine mh_iload_1 dX6_far_1 (q := 2) rfl ?_
  refine mh_callV1 ca_X6_far_2 (shX6_0 hC.1) (q := 5) rfl (by simp [Value.category]) ⟨Nat.zero_le _, Nat.zero_le _⟩ ?_
  refine sp_X6_houseAt hC (fun hk => ?_) (fun j hj ej => ?_)
  · skip
    refine mh_astoreN_3 dX6_far_5 (q := 6) rfl ?_
    refine mh_aloadN_3 dX6_far_6 (q := 7) rfl ?_
    refine mh_ifnullN dX6_far_7 (tgt := 18) rfl ?_
    refine mh_iconst_m1 dX6_far_18 (q := 19) rfl ?_
    refine mh_goto dX6_far_19 (tgt := 27) rfl ?_
    refine mh_ireturn dX6_far_27 rfl rfl ?_
    exact hn (fun ⟨i, hi, e, e1⟩ => by first | exact hk ⟨i, hi, e⟩ | (have e4 : j = i := (nI_eq (by have := hC.2.1; omega) (by have := hC.2.1; omega)).mp e; subst e4; exact hk e1))
  · skip
    subst ej
    refine mh_astore_3 dX6_far_5 (q := 6) rfl ?_
    refine mh_aload_3 dX6_far_6 (q := 7) rfl ?_
    refine mh_ifnullR dX6_far_7 (q := 10) rfl ?_
    refine mh_aload_3 dX6_far_10 (q := 11) rfl ?_
    refine mh_iload_2 dX6_far_11 (q := 12) rfl ?_
    refine mh_callV1 ca_X6_far_12 (shX1_0 (hC.2.2.2 j hj).2.1) (q := 15) rfl (by simp [Value.category]) ⟨Nat.zero_le _, Nat.zero_le _⟩ ?_
    refine sp_X1_hasRoom (hC.2.2.2 j hj).2 (fun r hr er => ?_) (fun hk => ?_)
    · skip
      subst er
      refine mh_if_ne dX6_far_15 (tgt := 22) (q := 18) rfl rfl (fun _ => ?_) (fun hh => False.elim (by revert hh; decide))
      refine mh_aload_3 dX6_far_22 (q := 23) rfl ?_
      refine mh_iload_2 dX6_far_23 (q := 24) rfl ?_
      refine mh_callV1 ca_X6_far_24 (shX1_0 (hC.2.2.2 j hj).2.1) (q := 27) rfl (by simp [Value.category]) ⟨Nat.zero_le _, Nat.zero_le _⟩ ?_
      refine sp_X1_howFar (hC.2.2.2 j hj).2 (hK j hj) hr (fun z I2 hz hfr => ?_)
      refine mh_ireturn dX6_far_27 rfl rfl ?_
      exact ht j r hj hr rfl rfl z I2 hz hfr
    · skip
      refine mh_if_ne dX6_far_15 (tgt := 22) (q := 18) rfl rfl (fun hh => False.elim (by revert hh; decide)) (fun _ => ?_)
      refine mh_iconst_m1 dX6_far_18 (q := 19) rfl ?_
      refine mh_goto dX6_far_19 (tgt := 27) rfl ?_
      refine mh_ireturn dX6_far_27 rfl rfl ?_
      exact hn (fun ⟨i, hi, e, e1⟩ => by first | exact hk ⟨i, hi, e⟩ | (have e4 : j = i := (nI_eq (by have := hC.2.1; omega) (by have := hC.2.1; omega)).mp e; subst e4; exact hk e1))
set_option maxHeartbeats 4000000 in
set_option maxRecDepth 100000 in
theorem sp_X6_shut {l : Launch} {K : mhX} {Φ : mhQ} {S : List mhS} {F : mhF} {I : mhI} {J : mhJ} {P : mhP} {nh : Nat} {wd hg aH : Nat → Nat} (hC : mhHC S F I P nh wd hg aH) {kd : Nat → Nat → Int32} (hK : ∀ j, j < nh → mhPn I (aH j) (wd j) (hg j) (kd j)) {x : Int32} (hn : ¬ vHs nh x → Φ (some (.int (-1))) S F I J P) (ht : ∀ j, j < nh → x = nI j → ∀ (z : Int32) (I2 : mhI), shA (wd j) (hg j) (kd j) z → frH (aH j) F I F I2 → Φ (some (.int z)) S F I2 J P) : mhOk l K mX6_shut [.ref 0, .int x] S F I J P Φ := by
  refine mhOk.of (by decide) (by decide) rfl (Nat.le_of_ble_eq_true rfl) ?_
  refine mh_aload_0 dX6_shut_0 (q := 1) rfl ?_
  refine mh_iload_1 dX6_shut_1 (q := 2) rfl ?_
  refine mh_callV1 ca_X6_shut_2 (shX6_0 hC.1) (q := 5) rfl (by simp [Value.category]) ⟨Nat.zero_le _, Nat.zero_le _⟩ ?_
  refine sp_X6_houseAt hC (fun hk => ?_) (fun j hj ej => ?_)
  · skip
    refine mh_astoreN_2 dX6_shut_5 (q := 6) rfl ?_
    refine mh_aloadN_2 dX6_shut_6 (q := 7) rfl ?_
    refine mh_ifnonnullN dX6_shut_7 (q := 10) rfl ?_
    refine mh_iconst_m1 dX6_shut_10 (q := 11) rfl ?_
    refine mh_goto dX6_shut_11 (tgt := 18) rfl ?_
    refine mh_ireturn dX6_shut_18 rfl rfl ?_
    exact hn hk
  · skip
    subst ej
    refine mh_astore_2 dX6_shut_5 (q := 6) rfl ?_
    refine mh_aload_2 dX6_shut_6 (q := 7) rfl ?_
    refine mh_ifnonnullR dX6_shut_7 (tgt := 14) rfl ?_
    refine mh_aload_2 dX6_shut_14 (q := 15) rfl ?_
    refine mh_callV0 ca_X6_shut_15 (shX1_0 (hC.2.2.2 j hj).2.1) (q := 18) rfl (by simp [Value.category]) ⟨Nat.zero_le _, Nat.zero_le _⟩ ?_
    refine sp_X1_firstShut (hC.2.2.2 j hj).2 (hK j hj) (fun z I2 hz hfr => ?_)
    refine mh_ireturn dX6_shut_18 rfl rfl ?_
    exact ht j hj rfl z I2 hz hfr
