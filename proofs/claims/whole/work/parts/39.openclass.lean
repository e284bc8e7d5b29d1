/-! the fewest sides to open, by the class -/
def kup (kd : Nat → Int32) (a : Nat) : Nat → Int32 := fun x => if x = a then 2 else kd x
theorem wy_congr {w h : Nat} {kd kd' : Nat → Int32} (g : gOk w h) (hk : ∀ k, k < gSides w h → (kd k = 2 ↔ kd' k = 2)) : ∀ {d r : Nat}, r < gRooms w h → wy w h kd d r → wy w h kd' d r
  | 0, _, _, z => z
  | d + 1, r, hr, ⟨e, he, h1, h2⟩ => by
    refine ⟨e, he, (hk _ (gT1 g hr he).2.1).mp h1, ?_⟩
    by_cases z : gB w h r e = -9
    · exact Or.inl z
    · exact Or.inr (wy_congr g hk (gB_nat g hr he z).1 (h2.resolve_left z))
theorem near_congr {w h d : Nat} {kd kd' : Nat → Int32} (g : gOk w h) (hk : ∀ k, k < gSides w h → (kd k = 2 ↔ kd' k = 2)) : near w h kd d ↔ near w h kd' d := ⟨fun z r hr => wy_congr g hk hr (z r hr), fun z r hr => wy_congr g (fun k q => (hk k q).symm) hr (z r hr)⟩
theorem fair_congr {w h : Nat} {kd kd' : Nat → Int32} (g : gOk w h) (hk : ∀ k, k < gSides w h → (kd k = 2 ↔ kd' k = 2)) : fair w h kd ↔ fair w h kd' := by rw [fair_near g, fair_near g]; exact near_congr g hk
def kup2 (kd : Nat → Int32) (a b : Nat) : Nat → Int32 := kup (kup kd a) b
theorem kup_aa {kd : Nat → Int32} {a k : Nat} : kup2 kd a a k = 2 ↔ kup kd a k = 2 := by
  unfold kup2 kup
  by_cases c : k = a
  · simp [c]
  · simp [c]
/-- the answer of opened: how many, the first, the second -/
def opA (w h : Nat) (kd : Nat → Int32) (d : Nat) (m A B : Int32) : Prop :=
  (near w h kd d ∧ m = 0 ∧ A = -9 ∧ B = -9) ∨
  (¬ near w h kd d ∧ ∃ a, a < gSides w h ∧ near w h (kup kd a) d ∧ (∀ x, x < a → ¬ near w h (kup kd x) d) ∧ m = 1 ∧ A = nI a ∧ B = -9) ∨
  (¬ near w h kd d ∧ (∀ x, x < gSides w h → ¬ near w h (kup kd x) d) ∧ ∃ a b, a < b ∧ b < gSides w h ∧ near w h (kup2 kd a b) d ∧ (∀ x y, x < y → y < gSides w h → (x < a ∨ (x = a ∧ y < b)) → ¬ near w h (kup2 kd x y) d) ∧ m = 2 ∧ A = nI a ∧ B = nI b) ∨
  (¬ near w h kd d ∧ (∀ x, x < gSides w h → ¬ near w h (kup kd x) d) ∧ (∀ x y, x < y → y < gSides w h → ¬ near w h (kup2 kd x y) d) ∧ m = -9 ∧ A = -9 ∧ B = -9)
theorem opA_un {w h d : Nat} {kd : Nat → Int32} {m A B m' A' B' : Int32} (h1 : opA w h kd d m A B) (h2 : opA w h kd d m' A' B') : m = m' ∧ A = A' ∧ B = B' := by
  rcases h1 with ⟨a1, b1, c1, d1⟩ | ⟨a1, x1, b1, c1, d1, e1, f1, g1⟩ | ⟨a1, b1, x1, y1, c1, d1, e1, f1, g1, i1, j1⟩ | ⟨a1, b1, c1, d1, e1, f1⟩ <;>
  rcases h2 with ⟨a2, b2, c2, d2⟩ | ⟨a2, x2, b2, c2, d2, e2, f2, g2⟩ | ⟨a2, b2, x2, y2, c2, d2, e2, f2, g2, i2, j2⟩ | ⟨a2, b2, c2, d2, e2, f2⟩
  · exact ⟨b1.trans b2.symm, c1.trans c2.symm, d1.trans d2.symm⟩
  · exact absurd a1 a2
  · exact absurd a1 a2
  · exact absurd a1 a2
  · exact absurd a2 a1
  · have : x1 = x2 := by
      rcases Nat.lt_trichotomy x1 x2 with q | q | q
      · exact absurd c1 (d2 x1 q)
      · exact q
      · exact absurd c2 (d1 x2 q)
    subst this
    exact ⟨e1.trans e2.symm, f1.trans f2.symm, g1.trans g2.symm⟩
  · exact absurd c1 (b2 x1 b1)
  · exact absurd c1 (b2 x1 b1)
  · exact absurd a2 a1
  · exact absurd c2 (b1 x2 b2)
  · have : x1 = x2 ∧ y1 = y2 := by
      rcases Nat.lt_trichotomy x1 x2 with q | q | q
      · exact absurd e1 (f2 x1 y1 c1 d1 (Or.inl q))
      · refine ⟨q, ?_⟩
        rcases Nat.lt_trichotomy y1 y2 with u | u | u
        · exact absurd e1 (f2 x1 y1 c1 d1 (Or.inr ⟨q, u⟩))
        · exact u
        · exact absurd e2 (f1 x2 y2 c2 d2 (Or.inr ⟨q.symm, u⟩))
      · exact absurd e2 (f1 x2 y2 c2 d2 (Or.inl q))
    obtain ⟨rfl, rfl⟩ := this
    exact ⟨g1.trans g2.symm, i1.trans i2.symm, j1.trans j2.symm⟩
  · exact absurd e1 (c2 x1 y1 c1 d1)
  · exact absurd a2 a1
  · exact absurd c2 (b1 x2 b2)
  · exact absurd e2 (c1 x2 y2 c2 d2)
  · exact ⟨d1.trans d2.symm, e1.trans e2.symm, f1.trans f2.symm⟩
def fr8 (a : Nat) (I I' : mhI) : Prop := ∀ c y, c ≠ a + 8 → I' c y = I c y
theorem fr8.rf {a : Nat} {I : mhI} : fr8 a I I := fun _ _ _ => rfl
theorem fr8.tr {a : Nat} {I I1 I2 : mhI} (h : fr8 a I I1) (h2 : fr8 a I1 I2) : fr8 a I I2 := fun c y e => (h2 c y e).trans (h c y e)
theorem fr8.h {a : Nat} {F : mhF} {I I1 : mhI} (h : fr8 a I I1) : frH a F I F I1 := ⟨fun _ _ _ => rfl, fun c y e => h c y (by omega)⟩
set_option maxHeartbeats 4000000 in
set_option maxRecDepth 100000 in
theorem sp_X1_isNearWith {l : Launch} {K : mhX} {Φ : mhQ} {S : List mhS} {F : mhF} {I : mhI} {J : mhJ} {P : mhP} {a w h : Nat} (hH : mhHs S F I a w h) {kd : Nat → Int32} (hN : opN w h (fun s => I (a + 9) (nI s)) kd) {x y n : Nat} (hx : x < gSides w h) (hy : y < gSides w h) (h1 : 1 ≤ n) (hn : n < 1000) (ht : near w h (kup2 kd x y) n → ∀ I2 : mhI, fr8 a I I2 → Φ (some (.int 1)) S F I2 J P) (hf : ¬ near w h (kup2 kd x y) n → ∀ I2 : mhI, fr8 a I I2 → Φ (some (.int 0)) S F I2 J P) : mhOk l K mX1_isNearWith [.ref a, .int (nI x), .int (nI y), .int (nI n)] S F I J P Φ := by
  refine mhOk.of (by decide) (by decide) rfl (Nat.le_of_ble_eq_true rfl) ?_
  refine mh_aload_0 dX1_isNearWith_0 (q := 1) rfl ?_
  refine mh_getR fl_X1_49 dX1_isNearWith_1 (q := 4) rfl (shX1_0 hH.1) rfl ?_
  refine mh_iconst_0 dX1_isNearWith_4 (q := 5) rfl ?_
  refine mh_aload_0 dX1_isNearWith_5 (q := 6) rfl ?_
  refine mh_getR fl_X1_46 dX1_isNearWith_6 (q := 9) rfl (shX1_0 hH.1) rfl ?_
  refine mh_iconst_0 dX1_isNearWith_9 (q := 10) rfl ?_
  refine mh_aload_0 dX1_isNearWith_10 (q := 11) rfl ?_
  refine mh_getR fl_X1_46 dX1_isNearWith_11 (q := 14) rfl (shX1_0 hH.1) rfl ?_
  refine mh_alen (v := 4) dX1_isNearWith_14 (q := 15) rfl (shX1_8 hH.1) (by decide) rfl ?_
  refine mh_copyI dX1_isNearWith_15 wd_arcL_X1_117 wd_arcN wd_arcS wd_arcI (by decide) (by decide) (by simp [Value.category]) (shX1_9 hH.1) (shX1_8 hH.1) (by decide) (by decide) (by decide) (by decide) (by decide) (by decide) (q := 18) rfl ?_
  obtain ⟨I1, hI1⟩ : ∃ z, z = mhCp I (a + 9) (0 : Int32).toNatClampNeg (a + 8) (0 : Int32).toNatClampNeg (4 : Int32).toNatClampNeg := ⟨_, rfl⟩
  rw [← hI1]
  have f1 : fr8 a I I1 := fun c y hc => by rw [hI1]; exact if_neg (fun e => hc e.1)
  have o1 : opN w h (fun s => I1 (a + 8) (nI s)) kd := opN_congr hN (fun s hs => by
    show I1 (a + 8) (nI s) = I (a + 9) (nI s)
    rw [hI1, show (0 : Int32).toNatClampNeg = 0 from rfl, show (4 : Int32).toNatClampNeg = 4 from rfl, mhCp_at (by omega), if_pos ⟨rfl, by omega, by omega⟩]
    exact congrArg (I (a + 9)) (congrArg nI (by omega))) (fun _ _ => Iff.rfl)
  have hHa := hH.frh f1.h
  refine mh_aload_0 dX1_isNearWith_18 (q := 19) rfl ?_
  refine mh_iload_1 dX1_isNearWith_19 (q := 20) rfl ?_
  refine mh_callV1 ca_X1_isNearWith_20 (shX1_0 hH.1) (q := 23) rfl (by simp [Value.category]) ⟨Nat.zero_le _, Nat.zero_le _⟩ ?_
  refine sp_X1_openAlso hHa hx ?_
  obtain ⟨I2, hI2⟩ : ∃ z, z = mhUI I1 (a + 8) (nI (gSl w h x)) (I1 (a + 8) (nI (gSl w h x)) ||| (1 <<< (nI (gRo w h x) &&& 31))) := ⟨_, rfl⟩
  rw [← hI2]
  have f2 : fr8 a I1 I2 := fun c y hc => by rw [hI2]; exact mhUI_ne hc
  have o2 : opN w h (fun s => I2 (a + 8) (nI s)) (kup kd x) := by rw [hI2]; exact opN_add (b := a + 8) hH.2.1 o1 hx
  have hHb := hHa.frh f2.h
  refine mh_aload_0 dX1_isNearWith_23 (q := 24) rfl ?_
  refine mh_iload_2 dX1_isNearWith_24 (q := 25) rfl ?_
  refine mh_callV1 ca_X1_isNearWith_25 (shX1_0 hH.1) (q := 28) rfl (by simp [Value.category]) ⟨Nat.zero_le _, Nat.zero_le _⟩ ?_
  refine sp_X1_openAlso hHb hy ?_
  obtain ⟨I3, hI3⟩ : ∃ z, z = mhUI I2 (a + 8) (nI (gSl w h y)) (I2 (a + 8) (nI (gSl w h y)) ||| (1 <<< (nI (gRo w h y) &&& 31))) := ⟨_, rfl⟩
  rw [← hI3]
  have f3 : fr8 a I2 I3 := fun c y hc => by rw [hI3]; exact mhUI_ne hc
  have o3 : opN w h (fun s => I3 (a + 8) (nI s)) (kup2 kd x y) := by rw [hI3]; exact opN_add (b := a + 8) hH.2.1 o2 hy
  have hHc := hHb.frh f3.h
  refine mh_aload_0 dX1_isNearWith_28 (q := 29) rfl ?_
  refine mh_iload_3 dX1_isNearWith_29 (q := 30) rfl ?_
  refine mh_callV1 ca_X1_isNearWith_30 (shX1_0 hH.1) (q := 33) rfl (by simp [Value.category]) ⟨Nat.zero_le _, Nat.zero_le _⟩ ?_
  refine sp_X1_roomsWithin hHc o3 h1 (by omega) (fun z hz => ?_)
  refine mh_aload_0 dX1_isNearWith_33 (q := 34) rfl ?_
  refine mh_callV0 ca_X1_isNearWith_34 (shX1_0 hH.1) (q := 37) rfl (by simp [Value.category]) ⟨Nat.zero_le _, Nat.zero_le _⟩ ?_
  refine sp_X1_allRooms hHc ?_
  have hna := near_all hH.2.1 hz
  refine mh_icmp_ne dX1_isNearWith_37 (tgt := 44) (q := 40) rfl rfl (fun c37 => ?_) (fun c37 => ?_)
  · skip
    refine mh_iconst_0 dX1_isNearWith_44 (q := 45) rfl ?_
    refine mh_ireturn dX1_isNearWith_45 rfl rfl ?_
    exact hf (fun q => c37 (hna.mpr q)) I3 (f1.tr (f2.tr f3))
  · skip
    refine mh_iconst_1 dX1_isNearWith_40 (q := 41) rfl ?_
    refine mh_goto dX1_isNearWith_41 (tgt := 45) rfl ?_
    refine mh_ireturn dX1_isNearWith_45 rfl rfl ?_
    exact ht (hna.mp c37) I3 (f1.tr (f2.tr f3))
set_option maxHeartbeats 4000000 in
set_option maxRecDepth 100000 in
theorem lp_X1_findTwoB {l : Launch} {K : mhX} {kc ks : Nat} {Φ : mhQ} {S : List mhS} {J : mhJ} {P : mhP} {F : mhF} {a w h n : Nat} {kd : Nat → Int32} (h1 : 1 ≤ n) (hn : n < 1000) {x : Nat} : ∀ (m y : Nat) (I : mhI), y + m = gSides w h → x < y → mhHs S F I a w h → opN w h (fun s => I (a + 9) (nI s)) kd → (∀ u v, u < v → v < gSides w h → (u < x ∨ (u = x ∧ v < y)) → ¬ near w h (kup2 kd u v) n) → (∀ (x y : Nat) (I2 : mhI), x < y → y < gSides w h → near w h (kup2 kd x y) n → (∀ u v, u < v → v < gSides w h → (u < x ∨ (u = x ∧ v < y)) → ¬ near w h (kup2 kd u v) n) → fr8 a I I2 → Φ (some (.int 1)) S (mhUF (mhUF F a 9 (nI x)) a 10 (nI y)) I2 J P) → (∀ I2 : mhI, fr8 a I I2 → (∀ u v, u < v → v < gSides w h → u < x + 1 → ¬ near w h (kup2 kd u v) n) → mhV l K mX1_findTwo kc ks Φ 50 [some (.ref a), some (.int (nI n)), some (.int (nI x)), some (.int (nI (gSides w h)))] [] S F I2 J P) → mhV l K mX1_findTwo kc ks Φ 14 [some (.ref a), some (.int (nI n)), some (.int (nI x)), some (.int (nI y))] [] S F I J P := by
  intro m
  induction m with
  | zero =>
    intro y I hi hxy hH hN hlex ht hΦ
    have hbd := gBd hH.2.1
    obtain rfl : y = gSides w h := by omega
    refine mh_iload_3 dX1_findTwo_14 (q := 15) rfl ?_
    refine mh_aload_0 dX1_findTwo_15 (q := 16) rfl ?_
    refine mh_getI fl_X1_68 dX1_findTwo_16 (q := 19) rfl (shX1_0 hH.1) rfl ?_
    rw [hH.2.2.2.2.2.1]
    refine mh_icmp_ge dX1_findTwo_19 (tgt := 50) (q := 22) rfl rfl (fun _ => ?_) (fun hh => absurd (nI_le (Nat.le_refl _) (by omega)) hh)
    exact hΦ I fr8.rf (fun u v q1 q2 q3 => hlex u v q1 q2 (by omega))
  | succ m ih =>
    intro y I hi hxy hH hN hlex ht hΦ
    have hbd := gBd hH.2.1
    refine mh_iload_3 dX1_findTwo_14 (q := 15) rfl ?_
    refine mh_aload_0 dX1_findTwo_15 (q := 16) rfl ?_
    refine mh_getI fl_X1_68 dX1_findTwo_16 (q := 19) rfl (shX1_0 hH.1) rfl ?_
    rw [hH.2.2.2.2.2.1]
    refine mh_icmp_ge dX1_findTwo_19 (tgt := 50) (q := 22) rfl rfl (fun hh => absurd hh (nI_ge (by omega) (by omega))) (fun _ => ?_)
    refine mh_aload_0 dX1_findTwo_22 (q := 23) rfl ?_
    refine mh_iload_2 dX1_findTwo_23 (q := 24) rfl ?_
    refine mh_iload_3 dX1_findTwo_24 (q := 25) rfl ?_
    refine mh_iload_1 dX1_findTwo_25 (q := 26) rfl ?_
    refine mh_callV3 ca_X1_findTwo_26 (shX1_0 hH.1) (q := 29) rfl (by simp [Value.category]) ⟨Nat.zero_le _, Nat.zero_le _⟩ ?_
    refine sp_X1_isNearWith hH hN (by omega) (by omega) h1 hn (fun z I2 f2 => ?_) (fun z I2 f2 => ?_)
    · skip
      refine mh_if_eq dX1_findTwo_29 (tgt := 44) (q := 32) rfl rfl (fun hh => False.elim (by revert hh; decide)) (fun _ => ?_)
      refine mh_aload_0 dX1_findTwo_32 (q := 33) rfl ?_
      refine mh_iload_2 dX1_findTwo_33 (q := 34) rfl ?_
      refine mh_putI (Or.inl fw_X1_27) rfl rfl dX1_findTwo_34 (q := 37) rfl (shX1_0 hH.1) rfl ?_
      refine mh_aload_0 dX1_findTwo_37 (q := 38) rfl ?_
      refine mh_iload_3 dX1_findTwo_38 (q := 39) rfl ?_
      refine mh_putI (Or.inl fw_X1_31) rfl rfl dX1_findTwo_39 (q := 42) rfl (shX1_0 hH.1) rfl ?_
      refine mh_iconst_1 dX1_findTwo_42 (q := 43) rfl ?_
      refine mh_ireturn dX1_findTwo_43 rfl rfl ?_
      exact ht x y I2 hxy (by omega) z hlex f2
    · skip
      refine mh_if_eq dX1_findTwo_29 (tgt := 44) (q := 32) rfl rfl (fun _ => ?_) (fun hh => False.elim (by revert hh; decide))
      refine mh_iinc_3 (v := 1) dX1_findTwo_44 (q := 47) rfl (by decide) ?_
      refine mh_goto dX1_findTwo_47 (tgt := 14) rfl ?_
      rw [nI_1]
      refine ih (y + 1) I2 (by omega) (by omega) (hH.frh f2.h) (opN_congr hN (fun s hs => f2 _ _ (by omega)) (fun _ _ => Iff.rfl)) (fun u v q1 q2 q3 => ?_) (fun x y I3 e1 e2 e3 e4 e5 => ht x y I3 e1 e2 e3 e4 (f2.tr e5)) (fun I3 e1 => hΦ I3 (f2.tr e1))
      by_cases c : u = x ∧ v = y
      · rw [c.1, c.2]; exact z
      · exact hlex u v q1 q2 (by omega)
set_option maxHeartbeats 4000000 in
set_option maxRecDepth 100000 in
theorem lp_X1_findTwo {l : Launch} {K : mhX} {kc ks : Nat} {Φ : mhQ} {S : List mhS} {J : mhJ} {P : mhP} {F : mhF} {a w h n : Nat} {kd : Nat → Int32} (h1 : 1 ≤ n) (hn : n < 1000) : ∀ (m x : Nat) (I : mhI) (o3 : Option Value), x + m = gSides w h → mhHs S F I a w h → opN w h (fun s => I (a + 9) (nI s)) kd → (∀ u v, u < v → v < gSides w h → u < x → ¬ near w h (kup2 kd u v) n) → (∀ (x y : Nat) (I2 : mhI), x < y → y < gSides w h → near w h (kup2 kd x y) n → (∀ u v, u < v → v < gSides w h → (u < x ∨ (u = x ∧ v < y)) → ¬ near w h (kup2 kd u v) n) → fr8 a I I2 → Φ (some (.int 1)) S (mhUF (mhUF F a 9 (nI x)) a 10 (nI y)) I2 J P) → ((∀ u v, u < v → v < gSides w h → ¬ near w h (kup2 kd u v) n) → ∀ I2 : mhI, fr8 a I I2 → Φ (some (.int 0)) S F I2 J P) → mhV l K mX1_findTwo kc ks Φ 2 [some (.ref a), some (.int (nI n)), some (.int (nI x)), o3] [] S F I J P := by
  intro m
  induction m with
  | zero =>
    intro x I o3 hi hH hN hd ht hf
    have hbd := gBd hH.2.1
    obtain rfl : x = gSides w h := by omega
    refine mh_iload_2 dX1_findTwo_2 (q := 3) rfl ?_
    refine mh_aload_0 dX1_findTwo_3 (q := 4) rfl ?_
    refine mh_getI fl_X1_68 dX1_findTwo_4 (q := 7) rfl (shX1_0 hH.1) rfl ?_
    rw [hH.2.2.2.2.2.1]
    refine mh_icmp_ge dX1_findTwo_7 (tgt := 56) (q := 10) rfl rfl (fun _ => ?_) (fun hh => absurd (nI_le (Nat.le_refl _) (by omega)) hh)
    refine mh_iconst_0 dX1_findTwo_56 (q := 57) rfl ?_
    refine mh_ireturn dX1_findTwo_57 rfl rfl ?_
    exact hf (fun u v q1 q2 => hd u v q1 q2 (by omega)) I fr8.rf
  | succ m ih =>
    intro x I o3 hi hH hN hd ht hf
    have hbd := gBd hH.2.1
    refine mh_iload_2 dX1_findTwo_2 (q := 3) rfl ?_
    refine mh_aload_0 dX1_findTwo_3 (q := 4) rfl ?_
    refine mh_getI fl_X1_68 dX1_findTwo_4 (q := 7) rfl (shX1_0 hH.1) rfl ?_
    rw [hH.2.2.2.2.2.1]
    refine mh_icmp_ge dX1_findTwo_7 (tgt := 56) (q := 10) rfl rfl (fun hh => absurd hh (nI_ge (by omega) (by omega))) (fun _ => ?_)
    refine mh_iload_2 dX1_findTwo_10 (q := 11) rfl ?_
    refine mh_iconst_1 dX1_findTwo_11 (q := 12) rfl ?_
    refine mh_iadd dX1_findTwo_12 (q := 13) rfl ?_
    rw [nI_1]
    refine mh_istore_3 dX1_findTwo_13 (q := 14) rfl ?_
    refine lp_X1_findTwoB h1 hn (gSides w h - (x + 1)) (x + 1) I (by omega) (by omega) hH hN (fun u v q1 q2 q3 => ?_) ht (fun I2 f2 hd2 => ?_)
    · exact hd u v q1 q2 (by omega)
    refine mh_iinc_2 (v := 1) dX1_findTwo_50 (q := 53) rfl (by decide) ?_
    refine mh_goto dX1_findTwo_53 (tgt := 2) rfl ?_
    rw [nI_1]
    exact ih (x + 1) I2 _ (by omega) (hH.frh f2.h) (opN_congr hN (fun s hs => f2 _ _ (by omega)) (fun _ _ => Iff.rfl)) hd2 (fun x y I3 e1 e2 e3 e4 e5 => ht x y I3 e1 e2 e3 e4 (f2.tr e5)) (fun q I3 e1 => hf q I3 (f2.tr e1))
set_option maxHeartbeats 4000000 in
set_option maxRecDepth 100000 in
theorem sp_X1_findTwo {l : Launch} {K : mhX} {Φ : mhQ} {S : List mhS} {F : mhF} {I : mhI} {J : mhJ} {P : mhP} {a w h : Nat} (hH : mhHs S F I a w h) {kd : Nat → Int32} (hN : opN w h (fun s => I (a + 9) (nI s)) kd) {n : Nat} (h1 : 1 ≤ n) (hn : n < 1000) (ht : ∀ (x y : Nat) (I2 : mhI), x < y → y < gSides w h → near w h (kup2 kd x y) n → (∀ u v, u < v → v < gSides w h → (u < x ∨ (u = x ∧ v < y)) → ¬ near w h (kup2 kd u v) n) → fr8 a I I2 → Φ (some (.int 1)) S (mhUF (mhUF F a 9 (nI x)) a 10 (nI y)) I2 J P) (hf : (∀ u v, u < v → v < gSides w h → ¬ near w h (kup2 kd u v) n) → ∀ I2 : mhI, fr8 a I I2 → Φ (some (.int 0)) S F I2 J P) : mhOk l K mX1_findTwo [.ref a, .int (nI n)] S F I J P Φ := by
  refine mhOk.of (by decide) (by decide) rfl (Nat.le_of_ble_eq_true rfl) ?_
  refine mh_iconst_0 dX1_findTwo_0 (q := 1) rfl ?_
  refine mh_istore_2 dX1_findTwo_1 (q := 2) rfl ?_
  exact lp_X1_findTwo (kc := mX1_findTwo.2.2.2.2.cells) (ks := mX1_findTwo.2.2.2.2.slots) h1 hn (gSides w h) 0 I _ (Nat.zero_add _) hH hN (fun u v _ _ q => absurd q (Nat.not_lt_zero u)) ht hf
set_option maxHeartbeats 4000000 in
set_option maxRecDepth 100000 in
theorem lp_X1_fewestToOpen {l : Launch} {K : mhX} {kc ks : Nat} {Φ : mhQ} {S : List mhS} {J : mhJ} {P : mhP} {F : mhF} {a w h n : Nat} {kd : Nat → Int32} (h1 : 1 ≤ n) (hn : n < 1000) (h9 : F a 9 = -9) (h10 : F a 10 = -9) (hnn : ¬ near w h kd n) : ∀ (m x : Nat) (I : mhI), x + m = gSides w h → mhHs S F I a w h → opN w h (fun s => I (a + 9) (nI s)) kd → (∀ u, u < x → ¬ near w h (kup kd u) n) → (∀ (m A B : Int32) (F2 : mhF) (I2 : mhI), opA w h kd n m A B → F2 a 9 = A → F2 a 10 = B → frH a F I F2 I2 → Φ (some (.int m)) S F2 I2 J P) → mhV l K mX1_fewestToOpen kc ks Φ 54 [some (.ref a), some (.int (nI n)), some (.int (nI x))] [] S F I J P := by
  intro m
  induction m with
  | zero =>
    intro x I hi hH hN hd hΦ
    have hbd := gBd hH.2.1
    obtain rfl : x = gSides w h := by omega
    refine mh_iload_2 dX1_fewestToOpen_54 (q := 55) rfl ?_
    refine mh_aload_0 dX1_fewestToOpen_55 (q := 56) rfl ?_
    refine mh_getI fl_X1_68 dX1_fewestToOpen_56 (q := 59) rfl (shX1_0 hH.1) rfl ?_
    rw [hH.2.2.2.2.2.1]
    refine mh_icmp_ge dX1_fewestToOpen_59 (tgt := 85) (q := 62) rfl rfl (fun _ => ?_) (fun hh => absurd (nI_le (Nat.le_refl _) (by omega)) hh)
    refine mh_aload_0 dX1_fewestToOpen_85 (q := 86) rfl ?_
    refine mh_iload_1 dX1_fewestToOpen_86 (q := 87) rfl ?_
    refine mh_callV1 ca_X1_fewestToOpen_87 (shX1_0 hH.1) (q := 90) rfl (by simp [Value.category]) ⟨Nat.zero_le _, Nat.zero_le _⟩ ?_
    refine sp_X1_findTwo hH hN h1 hn (fun x y I2 e1 e2 e3 e4 f2 => ?_) (fun q I2 f2 => ?_)
    · skip
      refine mh_if_eq dX1_fewestToOpen_90 (tgt := 97) (q := 93) rfl rfl (fun hh => False.elim (by revert hh; decide)) (fun _ => ?_)
      refine mh_iconst_2 dX1_fewestToOpen_93 (q := 94) rfl ?_
      refine mh_goto dX1_fewestToOpen_94 (tgt := 99) rfl ?_
      refine mh_ireturn dX1_fewestToOpen_99 rfl rfl ?_
      exact hΦ 2 (nI x) (nI y) _ _ (Or.inr (Or.inr (Or.inl ⟨hnn, hd, x, y, e1, e2, e3, e4, rfl, rfl, rfl⟩))) ((mhUF_nk (by omega)).trans mhUF_at) mhUF_at ⟨fun b k e => by repeat rw [mhUF_nk (by omega)], fun c y e => f2 c y (by omega)⟩
    · skip
      refine mh_if_eq dX1_fewestToOpen_90 (tgt := 97) (q := 93) rfl rfl (fun _ => ?_) (fun hh => False.elim (by revert hh; decide))
      refine mh_bipush (v := (-9)) dX1_fewestToOpen_97 (q := 99) rfl (by decide) ?_
      refine mh_ireturn dX1_fewestToOpen_99 rfl rfl ?_
      exact hΦ (-9) (-9) (-9) F I2 (Or.inr (Or.inr (Or.inr ⟨hnn, hd, q, rfl, rfl, rfl⟩))) h9 h10 f2.h
  | succ m ih =>
    intro x I hi hH hN hd hΦ
    have hbd := gBd hH.2.1
    have hcg : near w h (kup2 kd x x) n ↔ near w h (kup kd x) n := near_congr hH.2.1 (fun k _ => kup_aa)
    refine mh_iload_2 dX1_fewestToOpen_54 (q := 55) rfl ?_
    refine mh_aload_0 dX1_fewestToOpen_55 (q := 56) rfl ?_
    refine mh_getI fl_X1_68 dX1_fewestToOpen_56 (q := 59) rfl (shX1_0 hH.1) rfl ?_
    rw [hH.2.2.2.2.2.1]
    refine mh_icmp_ge dX1_fewestToOpen_59 (tgt := 85) (q := 62) rfl rfl (fun hh => absurd hh (nI_ge (by omega) (by omega))) (fun _ => ?_)
    refine mh_aload_0 dX1_fewestToOpen_62 (q := 63) rfl ?_
    refine mh_iload_2 dX1_fewestToOpen_63 (q := 64) rfl ?_
    refine mh_iload_2 dX1_fewestToOpen_64 (q := 65) rfl ?_
    refine mh_iload_1 dX1_fewestToOpen_65 (q := 66) rfl ?_
    refine mh_callV3 ca_X1_fewestToOpen_66 (shX1_0 hH.1) (q := 69) rfl (by simp [Value.category]) ⟨Nat.zero_le _, Nat.zero_le _⟩ ?_
    refine sp_X1_isNearWith hH hN (by omega) (by omega) h1 hn (fun z I2 f2 => ?_) (fun z I2 f2 => ?_)
    · skip
      refine mh_if_eq dX1_fewestToOpen_69 (tgt := 79) (q := 72) rfl rfl (fun hh => False.elim (by revert hh; decide)) (fun _ => ?_)
      refine mh_aload_0 dX1_fewestToOpen_72 (q := 73) rfl ?_
      refine mh_iload_2 dX1_fewestToOpen_73 (q := 74) rfl ?_
      refine mh_putI (Or.inl fw_X1_27) rfl rfl dX1_fewestToOpen_74 (q := 77) rfl (shX1_0 hH.1) rfl ?_
      refine mh_iconst_1 dX1_fewestToOpen_77 (q := 78) rfl ?_
      refine mh_ireturn dX1_fewestToOpen_78 rfl rfl ?_
      exact hΦ 1 (nI x) (-9) _ _ (Or.inr (Or.inl ⟨hnn, x, by omega, hcg.mp z, hd, rfl, rfl, rfl⟩)) mhUF_at ((mhUF_nk (by omega)).trans h10) ⟨fun b k e => by repeat rw [mhUF_nk (by omega)], fun c y e => f2 c y (by omega)⟩
    · skip
      refine mh_if_eq dX1_fewestToOpen_69 (tgt := 79) (q := 72) rfl rfl (fun _ => ?_) (fun hh => False.elim (by revert hh; decide))
      refine mh_iinc_2 (v := 1) dX1_fewestToOpen_79 (q := 82) rfl (by decide) ?_
      refine mh_goto dX1_fewestToOpen_82 (tgt := 54) rfl ?_
      rw [nI_1]
      refine ih (x + 1) I2 (by omega) (hH.frh f2.h) (opN_congr hN (fun s hs => f2 _ _ (by omega)) (fun _ _ => Iff.rfl)) (fun u hu => ?_) (fun m A B F3 I3 e1 e2 e3 e4 => hΦ m A B F3 I3 e1 e2 e3 (frH.tr f2.h e4))
      rcases Nat.lt_or_ge u x with q | q
      · exact hd u q
      · rw [show u = x by omega]; exact fun q2 => z (hcg.mpr q2)
set_option maxHeartbeats 4000000 in
set_option maxRecDepth 100000 in
theorem sp_X1_fewestToOpen {l : Launch} {K : mhX} {Φ : mhQ} {S : List mhS} {F : mhF} {I : mhI} {J : mhJ} {P : mhP} {a w h : Nat} (hH : mhHs S F I a w h) {kd : Nat → Int32} (hp : mhPn I a w h kd) {n : Nat} (h1 : 1 ≤ n) (hn : n < 1000) (hΦ : ∀ (m A B : Int32) (F2 : mhF) (I2 : mhI), opA w h kd n m A B → F2 a 9 = A → F2 a 10 = B → frH a F I F2 I2 → Φ (some (.int m)) S F2 I2 J P) : mhOk l K mX1_fewestToOpen [.ref a, .int (nI n)] S F I J P Φ := by
  refine mhOk.of (by decide) (by decide) rfl (Nat.le_of_ble_eq_true rfl) ?_
  refine mh_aload_0 dX1_fewestToOpen_0 (q := 1) rfl ?_
  refine mh_aload_0 dX1_fewestToOpen_1 (q := 2) rfl ?_
  refine mh_getR fl_X1_9 dX1_fewestToOpen_2 (q := 5) rfl (shX1_0 hH.1) rfl ?_
  refine mh_callV1 ca_X1_fewestToOpen_5 (shX1_0 hH.1) (q := 8) rfl (by simp [Value.category]) ⟨Nat.zero_le _, Nat.zero_le _⟩ ?_
  refine sp_X1_openBy hH (shX1_1 hH.1) (by omega) hp (fun I1 ho hf1 => ?_)
  have hfr : frH a F I F I1 := ⟨fun _ _ _ => rfl, fun c y hc => hf1 c y (by omega)⟩
  have hH0 := hH
  replace hH := hH.frh hfr
  refine mh_aload_0 dX1_fewestToOpen_8 (q := 9) rfl ?_
  refine mh_getR fl_X1_46 dX1_fewestToOpen_9 (q := 12) rfl (shX1_0 hH.1) rfl ?_
  refine mh_iconst_0 dX1_fewestToOpen_12 (q := 13) rfl ?_
  refine mh_aload_0 dX1_fewestToOpen_13 (q := 14) rfl ?_
  refine mh_getR fl_X1_49 dX1_fewestToOpen_14 (q := 17) rfl (shX1_0 hH.1) rfl ?_
  refine mh_iconst_0 dX1_fewestToOpen_17 (q := 18) rfl ?_
  refine mh_aload_0 dX1_fewestToOpen_18 (q := 19) rfl ?_
  refine mh_getR fl_X1_46 dX1_fewestToOpen_19 (q := 22) rfl (shX1_0 hH.1) rfl ?_
  refine mh_alen (v := 4) dX1_fewestToOpen_22 (q := 23) rfl (shX1_8 hH.1) (by decide) rfl ?_
  refine mh_copyI dX1_fewestToOpen_23 wd_arcL_X1_117 wd_arcN wd_arcS wd_arcI (by decide) (by decide) (by simp [Value.category]) (shX1_8 hH.1) (shX1_9 hH.1) (by decide) (by decide) (by decide) (by decide) (by decide) (by decide) (q := 26) rfl ?_
  obtain ⟨I2, hI2⟩ : ∃ z, z = mhCp I1 (a + 8) (0 : Int32).toNatClampNeg (a + 9) (0 : Int32).toNatClampNeg (4 : Int32).toNatClampNeg := ⟨_, rfl⟩
  rw [← hI2]
  have g2 : ∀ c y, c ≠ a + 9 → I2 c y = I1 c y := fun c y hc => by rw [hI2]; exact if_neg (fun e => hc e.1)
  have hN : opN w h (fun s => I2 (a + 9) (nI s)) kd := opN_congr ho (fun s hs => by
    show I2 (a + 9) (nI s) = I1 (a + 8) (nI s)
    rw [hI2, show (0 : Int32).toNatClampNeg = 0 from rfl, show (4 : Int32).toNatClampNeg = 4 from rfl, mhCp_at (by omega), if_pos ⟨rfl, by omega, by omega⟩]
    exact congrArg (I1 (a + 8)) (congrArg nI (by omega))) (fun _ _ => Iff.rfl)
  have ho2 : opN w h (fun s => I2 (a + 8) (nI s)) kd := opN_congr ho (fun s hs => g2 _ _ (by omega)) (fun _ _ => Iff.rfl)
  have hfr2 : frH a F I1 (mhUF (mhUF F a 9 (-9)) a 10 (-9)) I2 := ⟨fun b k e => by repeat rw [mhUF_nk (by omega)], fun c y e => g2 c y (by omega)⟩
  have hH2 := hH.frh hfr2
  refine mh_aload_0 dX1_fewestToOpen_26 (q := 27) rfl ?_
  refine mh_bipush (v := (-9)) dX1_fewestToOpen_27 (q := 29) rfl (by decide) ?_
  refine mh_putI (Or.inl fw_X1_27) rfl rfl dX1_fewestToOpen_29 (q := 32) rfl (shX1_0 hH.1) rfl ?_
  refine mh_aload_0 dX1_fewestToOpen_32 (q := 33) rfl ?_
  refine mh_bipush (v := (-9)) dX1_fewestToOpen_33 (q := 35) rfl (by decide) ?_
  refine mh_putI (Or.inl fw_X1_31) rfl rfl dX1_fewestToOpen_35 (q := 38) rfl (shX1_0 hH.1) rfl ?_
  refine mh_aload_0 dX1_fewestToOpen_38 (q := 39) rfl ?_
  refine mh_iload_1 dX1_fewestToOpen_39 (q := 40) rfl ?_
  refine mh_callV1 ca_X1_fewestToOpen_40 (shX1_0 hH.1) (q := 43) rfl (by simp [Value.category]) ⟨Nat.zero_le _, Nat.zero_le _⟩ ?_
  refine sp_X1_roomsWithin hH2 ho2 h1 (by omega) (fun y hy => ?_)
  refine mh_aload_0 dX1_fewestToOpen_43 (q := 44) rfl ?_
  refine mh_callV0 ca_X1_fewestToOpen_44 (shX1_0 hH.1) (q := 47) rfl (by simp [Value.category]) ⟨Nat.zero_le _, Nat.zero_le _⟩ ?_
  refine sp_X1_allRooms hH2 ?_
  have hna := near_all hH.2.1 hy
  refine mh_icmp_ne dX1_fewestToOpen_47 (tgt := 52) (q := 50) rfl rfl (fun c47 => ?_) (fun c47 => ?_)
  · skip
    refine mh_iconst_0 dX1_fewestToOpen_52 (q := 53) rfl ?_
    refine mh_istore_2 dX1_fewestToOpen_53 (q := 54) rfl ?_
    exact lp_X1_fewestToOpen h1 hn ((mhUF_nk (by omega)).trans mhUF_at) mhUF_at (fun z => c47 (hna.mpr z)) (gSides w h) 0 I2 (Nat.zero_add _) hH2 hN (fun u hu => absurd hu (Nat.not_lt_zero u)) (fun m A B F3 I3 e1 e2 e3 e4 => hΦ m A B F3 I3 e1 e2 e3 (hfr.tr (hfr2.tr e4)))
  · skip
    refine mh_iconst_0 dX1_fewestToOpen_50 (q := 51) rfl ?_
    refine mh_ireturn dX1_fewestToOpen_51 rfl rfl ?_
    exact hΦ 0 (-9) (-9) _ _ (Or.inl ⟨hna.mp c47, rfl, rfl, rfl⟩) ((mhUF_nk (by omega)).trans mhUF_at) mhUF_at (hfr.tr hfr2)
def opR (m A B k : Int32) : Int32 := if k = -1 then m else if k = 0 then A else B
theorem mh_n30 {n : Int32} (h : 1 ≤ n ∧ n ≤ 30) : ∃ k, 1 ≤ k ∧ k ≤ 30 ∧ n = nI k := by
  obtain ⟨k, hk, e⟩ := mh_of2 (n := 30) (M := 30) rfl (by grind) h.2
  refine ⟨k, ?_, by omega, e⟩
  rw [e, show (1 : Int32) = nI 1 from rfl, nI_leI (by decide) (by omega)] at h
  exact h.1
set_option maxHeartbeats 4000000 in
set_option maxRecDepth 100000 in
theorem sp_X6_opened {l : Launch} {K : mhX} {Φ : mhQ} {S : List mhS} {F : mhF} {I : mhI} {J : mhJ} {P : mhP} {nh : Nat} {wd hg aH : Nat → Nat} (hC : mhHC S F I P nh wd hg aH) {kd : Nat → Nat → Int32} (hK : ∀ j, j < nh → mhPn I (aH j) (wd j) (hg j) (kd j)) {x d k : Int32} (hn : ¬ (vHs nh x ∧ (-1 ≤ k ∧ k ≤ 1)) → Φ (some (.int (-1))) S F I J P) (hb : (vHs nh x ∧ (-1 ≤ k ∧ k ≤ 1)) → ¬ (1 ≤ d ∧ d ≤ 30) → Φ (some (.int (-2))) S F I J P) (ht : ∀ j n, j < nh → x = nI j → d = nI n → (-1 ≤ k ∧ k ≤ 1) → (1 ≤ d ∧ d ≤ 30) → n < 1000 → ∀ (m A B : Int32) (F2 : mhF) (I2 : mhI), opA (wd j) (hg j) (kd j) n m A B → frH (aH j) F I F2 I2 → Φ (some (.int (opR m A B k))) S F2 I2 J P) : mhOk l K mX6_opened [.ref 0, .int x, .int d, .int k] S F I J P Φ := by
  refine mhOk.of (by decide) (by decide) rfl (Nat.le_of_ble_eq_true rfl) ?_
  refine mh_aload_0 dX6_opened_0 (q := 1) rfl ?_
  refine mh_iload_1 dX6_opened_1 (q := 2) rfl ?_
  refine mh_callV1 ca_X6_opened_2 (shX6_0 hC.1) (q := 5) rfl (by simp [Value.category]) ⟨Nat.zero_le _, Nat.zero_le _⟩ ?_
  refine sp_X6_houseAt hC (fun hk => ?_) (fun j hj ej => ?_)
  · skip
    refine mh_astoreN_4 dX6_opened_5 (q := 7) rfl ?_
    refine mh_aloadN_4 dX6_opened_7 (q := 9) rfl ?_
    refine mh_ifnullN dX6_opened_9 (tgt := 21) rfl ?_
    refine mh_iconst_m1 dX6_opened_21 (q := 22) rfl ?_
    refine mh_ireturn dX6_opened_22 rfl rfl ?_
    exact hn (fun z => by first | exact hk z.1 | exact ck z.2)
  · skip
    subst ej
    refine mh_astore_4 dX6_opened_5 (q := 7) rfl ?_
    refine mh_aload_4 dX6_opened_7 (q := 9) rfl ?_
    refine mh_ifnullR dX6_opened_9 (q := 12) rfl ?_
    refine mh_iload_3 dX6_opened_12 (q := 13) rfl ?_
    refine mh_iconst_m1 dX6_opened_13 (q := 14) rfl ?_
    refine mh_iconst_1 dX6_opened_14 (q := 15) rfl ?_
    refine mh_callS3 ca_X6_opened_15 (q := 18) rfl (by simp [Value.category]) ⟨Nat.zero_le _, Nat.zero_le _⟩ ?_
    refine sp_X6_within (fun ck => ?_) (fun ck => ?_)
    · skip
      refine mh_if_ne dX6_opened_18 (tgt := 23) (q := 21) rfl rfl (fun _ => ?_) (fun hh => False.elim (by revert hh; decide))
      refine mh_iload_2 dX6_opened_23 (q := 24) rfl ?_
      refine mh_iconst_1 dX6_opened_24 (q := 25) rfl ?_
      refine mh_bipush (v := 30) dX6_opened_25 (q := 27) rfl (by decide) ?_
      refine mh_callS3 ca_X6_opened_27 (q := 30) rfl (by simp [Value.category]) ⟨Nat.zero_le _, Nat.zero_le _⟩ ?_
      refine sp_X6_within (fun cd => ?_) (fun cd => ?_)
      · skip
        refine mh_if_ne dX6_opened_30 (tgt := 36) (q := 33) rfl rfl (fun _ => ?_) (fun hh => False.elim (by revert hh; decide))
        refine mh_aload_4 dX6_opened_36 (q := 38) rfl ?_
        refine mh_iload_2 dX6_opened_38 (q := 39) rfl ?_
        refine mh_callV1 ca_X6_opened_39 (shX1_0 (hC.2.2.2 j hj).2.1) (q := 42) rfl (by simp [Value.category]) ⟨Nat.zero_le _, Nat.zero_le _⟩ ?_
        obtain ⟨n, hn1, hn2, rfl⟩ := mh_n30 cd
        refine sp_X1_fewestToOpen (hC.2.2.2 j hj).2 (hK j hj) hn1 (by omega) (fun m A B F2 I2 e1 e2 e3 e4 => ?_)
        refine mh_istore_5 dX6_opened_42 (q := 44) rfl ?_
        refine mh_iload_3 dX6_opened_44 (q := 45) rfl ?_
        refine mh_iconst_m1 dX6_opened_45 (q := 46) rfl ?_
        refine mh_icmp_ne dX6_opened_46 (tgt := 52) (q := 49) rfl rfl (fun c46 => ?_) (fun c46 => ?_)
        · skip
          refine mh_iload_3 dX6_opened_52 (q := 53) rfl ?_
          refine mh_if_ne dX6_opened_53 (tgt := 64) (q := 56) rfl rfl (fun c53 => ?_) (fun c53 => ?_)
          · skip
            refine mh_aload_4 dX6_opened_64 (q := 66) rfl ?_
            refine mh_getI fl_X6_299 dX6_opened_66 (q := 69) rfl (shX1_0 (hC.2.2.2 j hj).2.1) rfl ?_
            rw [e3]
            refine mh_ireturn dX6_opened_69 rfl rfl ?_
            exact mh_cl (ht j n hj rfl rfl ck cd (by omega) m A B F2 I2 e1 e4) (by grind [opR])
          · skip
            refine mh_aload_4 dX6_opened_56 (q := 58) rfl ?_
            refine mh_getI fl_X6_296 dX6_opened_58 (q := 61) rfl (shX1_0 (hC.2.2.2 j hj).2.1) rfl ?_
            rw [e2]
            refine mh_goto dX6_opened_61 (tgt := 69) rfl ?_
            refine mh_ireturn dX6_opened_69 rfl rfl ?_
            exact mh_cl (ht j n hj rfl rfl ck cd (by omega) m A B F2 I2 e1 e4) (by grind [opR])
        · skip
          refine mh_iload_5 dX6_opened_49 (q := 51) rfl ?_
          refine mh_ireturn dX6_opened_51 rfl rfl ?_
          exact mh_cl (ht j n hj rfl rfl ck cd (by omega) m A B F2 I2 e1 e4) (by grind [opR])
      · skip
        refine mh_if_ne dX6_opened_30 (tgt := 36) (q := 33) rfl rfl (fun hh => False.elim (by revert hh; decide)) (fun _ => ?_)
        refine mh_bipush (v := (-2)) dX6_opened_33 (q := 35) rfl (by decide) ?_
        refine mh_ireturn dX6_opened_35 rfl rfl ?_
        exact hb ⟨⟨j, hj, rfl⟩, ck⟩ cd
    · skip
      refine mh_if_ne dX6_opened_18 (tgt := 23) (q := 21) rfl rfl (fun hh => False.elim (by revert hh; decide)) (fun _ => ?_)
      refine mh_iconst_m1 dX6_opened_21 (q := 22) rfl ?_
      refine mh_ireturn dX6_opened_22 rfl rfl ?_
      exact hn (fun z => by first | exact hk z.1 | exact ck z.2)
