/-! rooms and sides: the class's and the reference's methods -/
def gSideI (w h r d : Int32) : Int32 := if r - r / 2 * 2 = 0 then 3 * (r / 2) + 2 - d else if d = 1 then (if r / 2 - r / 2 / w * w + 1 < w then 3 * (r / 2 + 1) + 1 else 3 * (w * h) + r / 2 / w) else if d = 2 then 3 * (r / 2) else (if r / 2 / w + 1 < h then 3 * (r / 2 + w) + 2 else 3 * (w * h) + h + (r / 2 - r / 2 / w * w))
def gBI (w h r d : Int32) : Int32 := if d = 1 then (if r - r / 2 * 2 = 0 then (if r / 2 - r / 2 / w * w = 0 then -9 else r - 1) else (if r / 2 - r / 2 / w * w + 1 = w then -9 else r + 1)) else if d = 2 then (if r - r / 2 * 2 = 0 then r + 1 else r - 1) else (if r - r / 2 * 2 = 0 then (if r / 2 / w = 0 then -9 else 2 * (r / 2 - w) + 1) else (if r / 2 / w + 1 = h then -9 else 2 * (r / 2 + w)))
theorem gI1l : ∀ w ∈ [1, 2, 3, 4], ∀ h ∈ [1, 2, 3], ∀ r ∈ List.range (gRooms w h), ∀ d ∈ [0, 1, 2], gSideI (nI w) (nI h) (nI r) (nI d) = nI (gSide w h r d) ∧ gBI (nI w) (nI h) (nI r) (nI d) = gB w h r d := by decide +kernel
theorem gI1 {w h r d : Nat} (g : gOk w h) (hr : r < gRooms w h) (hd : d < 3) : gSideI (nI w) (nI h) (nI r) (nI d) = nI (gSide w h r d) ∧ gBI (nI w) (nI h) (nI r) (nI d) = gB w h r d := gI1l w (gWl g.1 g.2.1) h (gHl g.2.2.1 g.2.2.2) r (List.mem_range.mpr hr) d (gDl hd)
theorem gW0 {w h : Nat} (g : gOk w h) : ¬ nI w = 0 := nI_ne0 g.1 (by have := g.2.1; omega)
theorem gRm {w h : Nat} (g : gOk w h) : (2 : Int32) * nI w * nI h = nI (gRooms w h) := by rw [show (2 : Int32) = nI 2 from rfl, pk_mul, pk_mul]; rfl
theorem gSd {w h : Nat} (g : gOk w h) : (3 : Int32) * nI w * nI h + nI w + nI h = nI (gSides w h) := by rw [show (3 : Int32) = nI 3 from rfl, pk_mul, pk_mul, nI_add, nI_add]; rfl
theorem mh_ev (r : Nat) (hr : r < 2 ^ 31) : nI r - nI r / 2 * 2 = nI (r % 2) := by rw [show (2 : Int32) = nI 2 from rfl]; exact pk_rem hr (by decide) (by decide)
theorem mh_ev0 (r : Nat) (hr : r < 2 ^ 31) : nI r - nI r / 2 * 2 = 0 ↔ r % 2 = 0 := by
  rw [mh_ev r hr, show (0 : Int32) = nI 0 from rfl, nI_eq (by omega) (by decide)]
theorem mh_bet {x : Int32} {n : Nat} (hn : n < 2 ^ 30) : (0 ≤ x ∧ x ≤ nI n - 1) ↔ ∃ r, r < n ∧ x = nI r := by
  have e1 : (nI n - 1 : Int32).toInt = (n : Int) - 1 := by
    rw [show (1 : Int32) = nI 1 from rfl, pk_sub_toInt hn (by decide)]; rfl
  constructor
  · rintro ⟨h0, h1⟩
    obtain ⟨r, hr, rfl⟩ := nI_of (Int32.not_lt.mpr h0)
    refine ⟨r, ?_, rfl⟩
    rw [fa_le, e1, nI_toInt hr] at h1
    omega
  · rintro ⟨r, hr, rfl⟩
    refine ⟨nI_pos' (by omega), ?_⟩
    rw [fa_le, e1, nI_toInt (by omega)]
    omega
theorem mh_lt {x : Int32} {n : Nat} (hn : n < 2 ^ 31) : (0 ≤ x ∧ x < nI n) ↔ ∃ r, r < n ∧ x = nI r := by
  constructor
  · rintro ⟨h0, h1⟩
    obtain ⟨r, hr, rfl⟩ := nI_of (Int32.not_lt.mpr h0)
    exact ⟨r, (nI_ltI hr hn).mp h1, rfl⟩
  · rintro ⟨r, hr, rfl⟩
    exact ⟨nI_pos' (by omega), nI_lt hr hn⟩
/-- a house of the class at a -/
def mhHs (S : List mhS) (F : mhF) (I : mhI) (a w h : Nat) : Prop := mhKX1 S a ∧ gOk w h ∧ F a 0 = nI w ∧ F a 1 = nI h ∧ F a 2 = nI (gRooms w h) ∧ F a 3 = nI (gSides w h) ∧ (∀ b, b < 4 → ∀ j, I (a + 3 + b) j = mhTab w h b j) ∧ I (a + 10) 0 = 1 - 2 * nI w ∧ I (a + 10) 1 = -1 ∧ I (a + 10) 2 = 1 ∧ 52 ≤ a
/-- a house of the reference, its number j -/
def mhHm (I : mhI) (j w h : Nat) : Prop := j < 3 ∧ gOk w h ∧ I 25 (nI j) = nI w ∧ I 26 (nI j) = nI h
def vRm (w h : Nat) (x : Int32) : Prop := ∃ r, r < gRooms w h ∧ x = nI r
def vSd (w h : Nat) (x : Int32) : Prop := ∃ k, k < gSides w h ∧ x = nI k
set_option maxHeartbeats 4000000 in
set_option maxRecDepth 100000 in
theorem sp_X1_hasRoom {l : Launch} {K : mhX} {Φ : mhQ} {S : List mhS} {F : mhF} {I : mhI} {J : mhJ} {P : mhP} {a w h : Nat} (hH : mhHs S F I a w h) {x : Int32} (ht : ∀ r, r < gRooms w h → x = nI r → Φ (some (.int 1)) S F I J P) (hf : ¬ vRm w h x → Φ (some (.int 0)) S F I J P) : mhOk l K mX1_hasRoom [.ref a, .int x] S F I J P Φ := by
  refine mhOk.of (by decide) (by decide) rfl (Nat.le_of_ble_eq_true rfl) ?_
  refine mh_iload_1 dX1_hasRoom_0 (q := 1) rfl ?_
  refine mh_iconst_0 dX1_hasRoom_1 (q := 2) rfl ?_
  refine mh_aload_0 dX1_hasRoom_2 (q := 3) rfl ?_
  refine mh_getI fl_X1_61 dX1_hasRoom_3 (q := 6) rfl (shX1_0 hH.1) rfl ?_
  rw [hH.2.2.2.2.1]
  refine mh_iconst_1 dX1_hasRoom_6 (q := 7) rfl ?_
  refine mh_isub dX1_hasRoom_7 (q := 8) rfl ?_
  refine mh_callN3 ca_X1_hasRoom_8 (q := 11) rfl (by simp [Value.category]) ⟨Nat.zero_le _, Nat.zero_le _⟩ ?_
  refine sp_X6_within (fun c8 => ?_) (fun c8 => ?_)
  · skip
    refine mh_ireturn dX1_hasRoom_11 rfl rfl ?_
    have hb := gBd hH.2.1
    rw [mh_bet (by omega)] at c8
    obtain ⟨r, hr, e⟩ := c8
    exact ht r hr e
  · skip
    refine mh_ireturn dX1_hasRoom_11 rfl rfl ?_
    have hb := gBd hH.2.1
    rw [mh_bet (by omega)] at c8
    exact hf c8
set_option maxHeartbeats 4000000 in
set_option maxRecDepth 100000 in
theorem sp_X1_hasSide {l : Launch} {K : mhX} {Φ : mhQ} {S : List mhS} {F : mhF} {I : mhI} {J : mhJ} {P : mhP} {a w h : Nat} (hH : mhHs S F I a w h) {x : Int32} (ht : ∀ r, r < gSides w h → x = nI r → Φ (some (.int 1)) S F I J P) (hf : ¬ vSd w h x → Φ (some (.int 0)) S F I J P) : mhOk l K mX1_hasSide [.ref a, .int x] S F I J P Φ := by
  refine mhOk.of (by decide) (by decide) rfl (Nat.le_of_ble_eq_true rfl) ?_
  refine mh_iload_1 dX1_hasSide_0 (q := 1) rfl ?_
  refine mh_iconst_0 dX1_hasSide_1 (q := 2) rfl ?_
  refine mh_aload_0 dX1_hasSide_2 (q := 3) rfl ?_
  refine mh_getI fl_X1_68 dX1_hasSide_3 (q := 6) rfl (shX1_0 hH.1) rfl ?_
  rw [hH.2.2.2.2.2.1]
  refine mh_iconst_1 dX1_hasSide_6 (q := 7) rfl ?_
  refine mh_isub dX1_hasSide_7 (q := 8) rfl ?_
  refine mh_callN3 ca_X1_hasSide_8 (q := 11) rfl (by simp [Value.category]) ⟨Nat.zero_le _, Nat.zero_le _⟩ ?_
  refine sp_X6_within (fun c8 => ?_) (fun c8 => ?_)
  · skip
    refine mh_ireturn dX1_hasSide_11 rfl rfl ?_
    have hb := gBd hH.2.1
    rw [mh_bet (by omega)] at c8
    obtain ⟨r, hr, e⟩ := c8
    exact ht r hr e
  · skip
    refine mh_ireturn dX1_hasSide_11 rfl rfl ?_
    have hb := gBd hH.2.1
    rw [mh_bet (by omega)] at c8
    exact hf c8
set_option maxHeartbeats 4000000 in
set_option maxRecDepth 100000 in
theorem sp_X1_allRooms {l : Launch} {K : mhX} {Φ : mhQ} {S : List mhS} {F : mhF} {I : mhI} {J : mhJ} {P : mhP} {a w h : Nat} (hH : mhHs S F I a w h) (hΦ : Φ (some (.int ((1 <<< (nI (gRooms w h) &&& 31)) - 1))) S F I J P) : mhOk l K mX1_allRooms [.ref a] S F I J P Φ := by
  refine mhOk.of (by decide) (by decide) rfl (Nat.le_of_ble_eq_true rfl) ?_
  refine mh_iconst_1 dX1_allRooms_0 (q := 1) rfl ?_
  refine mh_aload_0 dX1_allRooms_1 (q := 2) rfl ?_
  refine mh_getI fl_X1_61 dX1_allRooms_2 (q := 5) rfl (shX1_0 hH.1) rfl ?_
  rw [hH.2.2.2.2.1]
  refine mh_ishl dX1_allRooms_5 (q := 6) rfl ?_
  refine mh_iconst_1 dX1_allRooms_6 (q := 7) rfl ?_
  refine mh_isub dX1_allRooms_7 (q := 8) rfl ?_
  refine mh_ireturn dX1_allRooms_8 rfl rfl ?_
  exact hΦ
set_option maxHeartbeats 4000000 in
set_option maxRecDepth 100000 in
theorem sp_X1_sideOf {l : Launch} {K : mhX} {Φ : mhQ} {S : List mhS} {F : mhF} {I : mhI} {J : mhJ} {P : mhP} {a w h : Nat} (hH : mhHs S F I a w h) {r d : Nat} (hr : r < gRooms w h) (hd : d < 3) (hΦ : Φ (some (.int (nI (gSide w h r d)))) S F I J P) : mhOk l K mX1_sideOf [.ref a, .int (nI r), .int (nI d)] S F I J P Φ := by
  refine mhOk.of (by decide) (by decide) rfl (Nat.le_of_ble_eq_true rfl) ?_
  refine mh_aload_0 dX1_sideOf_0 (q := 1) rfl ?_
  refine mh_getR fl_X1_40 dX1_sideOf_1 (q := 4) rfl (shX1_0 hH.1) rfl ?_
  refine mh_iconst_3 dX1_sideOf_4 (q := 5) rfl ?_
  refine mh_iload_1 dX1_sideOf_5 (q := 6) rfl ?_
  refine mh_imul dX1_sideOf_6 (q := 7) rfl ?_
  refine mh_iload_2 dX1_sideOf_7 (q := 8) rfl ?_
  refine mh_iadd dX1_sideOf_8 (q := 9) rfl ?_
  have hb := gBd hH.2.1
  rw [show (3 : Int32) * nI r + nI d = nI (3 * r + d) by rw [show (3 : Int32) = nI 3 from rfl, pk_mul, nI_add]]
  refine mh_iald dX1_sideOf_9 (q := 10) rfl (shX1_6 hH.1) (vp_in_nI (by omega) (by decide)) ?_
  rw [show I (a + 6) (nI (3 * r + d)) = nI (gSide w h r d) from (hH.2.2.2.2.2.2.1 3 (by decide) _).trans (gT1 hH.2.1 hr hd).1]
  refine mh_ireturn dX1_sideOf_10 rfl rfl ?_
  exact hΦ
set_option maxHeartbeats 4000000 in
set_option maxRecDepth 100000 in
theorem sp_X1_behind {l : Launch} {K : mhX} {Φ : mhQ} {S : List mhS} {F : mhF} {I : mhI} {J : mhJ} {P : mhP} {a w h : Nat} (hH : mhHs S F I a w h) {r d : Nat} (hr : r < gRooms w h) (hd : d < 3) (hΦ : Φ (some (.int (gB w h r d))) S F I J P) : mhOk l K mX1_behind [.ref a, .int (nI r), .int (nI d)] S F I J P Φ := by
  refine mhOk.of (by decide) (by decide) rfl (Nat.le_of_ble_eq_true rfl) ?_
  refine mh_aload_0 dX1_behind_0 (q := 1) rfl ?_
  refine mh_iload_1 dX1_behind_1 (q := 2) rfl ?_
  refine mh_iload_2 dX1_behind_2 (q := 3) rfl ?_
  refine mh_callV2 ca_X1_behind_3 (shX1_0 hH.1) (q := 6) rfl (by simp [Value.category]) ⟨Nat.zero_le _, Nat.zero_le _⟩ ?_
  refine sp_X1_sideOf hH (by assumption) (by assumption) ?_
  have hb := gBd hH.2.1
  have q1 := (gT1 hH.2.1 hr hd).2.1
  have q2 := (gT1 hH.2.1 hr hd).2.2.1
  refine mh_istore_3 dX1_behind_6 (q := 7) rfl ?_
  refine mh_iload_1 dX1_behind_7 (q := 8) rfl ?_
  refine mh_iconst_2 dX1_behind_8 (q := 9) rfl ?_
  refine mh_irem dX1_behind_9 (q := 10) rfl (by decide) ?_
  refine mh_if_ne dX1_behind_10 (tgt := 22) (q := 13) rfl rfl (fun c10 => ?_) (fun c10 => ?_)
  · skip
    refine mh_aload_0 dX1_behind_22 (q := 23) rfl ?_
    refine mh_getR fl_X1_21 dX1_behind_23 (q := 26) rfl (shX1_0 hH.1) rfl ?_
    refine mh_iload_3 dX1_behind_26 (q := 27) rfl ?_
    refine mh_iald dX1_behind_27 (q := 28) rfl (shX1_4 hH.1) (vp_in_nI (by omega) (by decide)) ?_
    refine mh_ireturn dX1_behind_28 rfl rfl ?_
    rw [mh_ev0 r (by omega)] at c10
    first | (rw [if_pos (by simpa using c10)] at q2; rw [show I (a + 5) (nI (gSide w h r d)) = gB w h r d from (hH.2.2.2.2.2.2.1 2 (by decide) _).trans q2]; exact hΦ) | (rw [if_neg (by simpa using c10)] at q2; rw [show I (a + 4) (nI (gSide w h r d)) = gB w h r d from (hH.2.2.2.2.2.2.1 1 (by decide) _).trans q2]; exact hΦ)
  · skip
    refine mh_aload_0 dX1_behind_13 (q := 14) rfl ?_
    refine mh_getR fl_X1_24 dX1_behind_14 (q := 17) rfl (shX1_0 hH.1) rfl ?_
    refine mh_iload_3 dX1_behind_17 (q := 18) rfl ?_
    refine mh_iald dX1_behind_18 (q := 19) rfl (shX1_5 hH.1) (vp_in_nI (by omega) (by decide)) ?_
    refine mh_goto dX1_behind_19 (tgt := 28) rfl ?_
    refine mh_ireturn dX1_behind_28 rfl rfl ?_
    rw [mh_ev0 r (by omega)] at c10
    first | (rw [if_pos (by simpa using c10)] at q2; rw [show I (a + 5) (nI (gSide w h r d)) = gB w h r d from (hH.2.2.2.2.2.2.1 2 (by decide) _).trans q2]; exact hΦ) | (rw [if_neg (by simpa using c10)] at q2; rw [show I (a + 4) (nI (gSide w h r d)) = gB w h r d from (hH.2.2.2.2.2.2.1 1 (by decide) _).trans q2]; exact hΦ)
set_option maxHeartbeats 4000000 in
set_option maxRecDepth 100000 in
theorem sp_X7_rooms {l : Launch} {K : mhX} {Φ : mhQ} {S : List mhS} {F : mhF} {I : mhI} {J : mhJ} {P : mhP} (h7 : mhKX7 S) {j w h : Nat} (hm : mhHm I j w h) (hΦ : Φ (some (.int (nI (gRooms w h)))) S F I J P) : mhOk l K mX7_rooms [.ref 21, .int (nI j)] S F I J P Φ := by
  refine mhOk.of (by decide) (by decide) rfl (Nat.le_of_ble_eq_true rfl) ?_
  refine mh_iconst_2 dX7_rooms_0 (q := 1) rfl ?_
  refine mh_aload_0 dX7_rooms_1 (q := 2) rfl ?_
  refine mh_getR fl_X7_19 dX7_rooms_2 (q := 5) rfl (shX7_0 h7) rfl ?_
  refine mh_iload_1 dX7_rooms_5 (q := 6) rfl ?_
  refine mh_iald dX7_rooms_6 (q := 7) rfl (shX7_4 h7) (vp_in_nI (by have := hm.1; omega) (by decide)) ?_
  rw [hm.2.2.1]
  refine mh_imul dX7_rooms_7 (q := 8) rfl ?_
  refine mh_aload_0 dX7_rooms_8 (q := 9) rfl ?_
  refine mh_getR fl_X7_22 dX7_rooms_9 (q := 12) rfl (shX7_0 h7) rfl ?_
  refine mh_iload_1 dX7_rooms_12 (q := 13) rfl ?_
  refine mh_iald dX7_rooms_13 (q := 14) rfl (shX7_5 h7) (vp_in_nI (by have := hm.1; omega) (by decide)) ?_
  rw [hm.2.2.2]
  refine mh_imul dX7_rooms_14 (q := 15) rfl ?_
  refine mh_ireturn dX7_rooms_15 rfl rfl ?_
  rw [gRm hm.2.1]
  exact hΦ
set_option maxHeartbeats 4000000 in
set_option maxRecDepth 100000 in
theorem sp_X7_sides {l : Launch} {K : mhX} {Φ : mhQ} {S : List mhS} {F : mhF} {I : mhI} {J : mhJ} {P : mhP} (h7 : mhKX7 S) {j w h : Nat} (hm : mhHm I j w h) (hΦ : Φ (some (.int (nI (gSides w h)))) S F I J P) : mhOk l K mX7_sides [.ref 21, .int (nI j)] S F I J P Φ := by
  refine mhOk.of (by decide) (by decide) rfl (Nat.le_of_ble_eq_true rfl) ?_
  refine mh_iconst_3 dX7_sides_0 (q := 1) rfl ?_
  refine mh_aload_0 dX7_sides_1 (q := 2) rfl ?_
  refine mh_getR fl_X7_19 dX7_sides_2 (q := 5) rfl (shX7_0 h7) rfl ?_
  refine mh_iload_1 dX7_sides_5 (q := 6) rfl ?_
  refine mh_iald dX7_sides_6 (q := 7) rfl (shX7_4 h7) (vp_in_nI (by have := hm.1; omega) (by decide)) ?_
  rw [hm.2.2.1]
  refine mh_imul dX7_sides_7 (q := 8) rfl ?_
  refine mh_aload_0 dX7_sides_8 (q := 9) rfl ?_
  refine mh_getR fl_X7_22 dX7_sides_9 (q := 12) rfl (shX7_0 h7) rfl ?_
  refine mh_iload_1 dX7_sides_12 (q := 13) rfl ?_
  refine mh_iald dX7_sides_13 (q := 14) rfl (shX7_5 h7) (vp_in_nI (by have := hm.1; omega) (by decide)) ?_
  rw [hm.2.2.2]
  refine mh_imul dX7_sides_14 (q := 15) rfl ?_
  refine mh_aload_0 dX7_sides_15 (q := 16) rfl ?_
  refine mh_getR fl_X7_19 dX7_sides_16 (q := 19) rfl (shX7_0 h7) rfl ?_
  refine mh_iload_1 dX7_sides_19 (q := 20) rfl ?_
  refine mh_iald dX7_sides_20 (q := 21) rfl (shX7_4 h7) (vp_in_nI (by have := hm.1; omega) (by decide)) ?_
  rw [hm.2.2.1]
  refine mh_iadd dX7_sides_21 (q := 22) rfl ?_
  refine mh_aload_0 dX7_sides_22 (q := 23) rfl ?_
  refine mh_getR fl_X7_22 dX7_sides_23 (q := 26) rfl (shX7_0 h7) rfl ?_
  refine mh_iload_1 dX7_sides_26 (q := 27) rfl ?_
  refine mh_iald dX7_sides_27 (q := 28) rfl (shX7_5 h7) (vp_in_nI (by have := hm.1; omega) (by decide)) ?_
  rw [hm.2.2.2]
  refine mh_iadd dX7_sides_28 (q := 29) rfl ?_
  refine mh_ireturn dX7_sides_29 rfl rfl ?_
  rw [gSd hm.2.1]
  exact hΦ
set_option maxHeartbeats 4000000 in
set_option maxRecDepth 100000 in
theorem sp_X7_sideOf {l : Launch} {K : mhX} {Φ : mhQ} {S : List mhS} {F : mhF} {I : mhI} {J : mhJ} {P : mhP} (h7 : mhKX7 S) {j w h : Nat} (hm : mhHm I j w h) {r d : Nat} (hr : r < gRooms w h) (hd : d < 3) (hΦ : Φ (some (.int (nI (gSide w h r d)))) S F I J P) : mhOk l K mX7_sideOf [.ref 21, .int (nI j), .int (nI r), .int (nI d)] S F I J P Φ := by
  refine mhOk.of (by decide) (by decide) rfl (Nat.le_of_ble_eq_true rfl) ?_
  rw [← (gI1 hm.2.1 hr hd).1] at hΦ
  refine mh_iload_2 dX7_sideOf_0 (q := 1) rfl ?_
  refine mh_iconst_2 dX7_sideOf_1 (q := 2) rfl ?_
  refine mh_idiv dX7_sideOf_2 (q := 3) rfl (by decide) ?_
  refine mh_istore_4 dX7_sideOf_3 (q := 5) rfl ?_
  refine mh_aload_0 dX7_sideOf_5 (q := 6) rfl ?_
  refine mh_getR fl_X7_19 dX7_sideOf_6 (q := 9) rfl (shX7_0 h7) rfl ?_
  refine mh_iload_1 dX7_sideOf_9 (q := 10) rfl ?_
  refine mh_iald dX7_sideOf_10 (q := 11) rfl (shX7_4 h7) (vp_in_nI (by have := hm.1; omega) (by decide)) ?_
  rw [hm.2.2.1]
  refine mh_aload_0 dX7_sideOf_11 (q := 12) rfl ?_
  refine mh_getR fl_X7_22 dX7_sideOf_12 (q := 15) rfl (shX7_0 h7) rfl ?_
  refine mh_iload_1 dX7_sideOf_15 (q := 16) rfl ?_
  refine mh_iald dX7_sideOf_16 (q := 17) rfl (shX7_5 h7) (vp_in_nI (by have := hm.1; omega) (by decide)) ?_
  rw [hm.2.2.2]
  refine mh_imul dX7_sideOf_17 (q := 18) rfl ?_
  refine mh_istore_5 dX7_sideOf_18 (q := 20) rfl ?_
  refine mh_iload_2 dX7_sideOf_20 (q := 21) rfl ?_
  refine mh_iconst_2 dX7_sideOf_21 (q := 22) rfl ?_
  refine mh_irem dX7_sideOf_22 (q := 23) rfl (by decide) ?_
  refine mh_if_ne dX7_sideOf_23 (tgt := 35) (q := 26) rfl rfl (fun c23 => ?_) (fun c23 => ?_)
  · skip
    refine mh_iload_4 dX7_sideOf_35 (q := 37) rfl ?_
    refine mh_aload_0 dX7_sideOf_37 (q := 38) rfl ?_
    refine mh_getR fl_X7_19 dX7_sideOf_38 (q := 41) rfl (shX7_0 h7) rfl ?_
    refine mh_iload_1 dX7_sideOf_41 (q := 42) rfl ?_
    refine mh_iald dX7_sideOf_42 (q := 43) rfl (shX7_4 h7) (vp_in_nI (by have := hm.1; omega) (by decide)) ?_
    rw [hm.2.2.1]
    refine mh_irem dX7_sideOf_43 (q := 44) rfl (gW0 hm.2.1) ?_
    refine mh_istore_6 dX7_sideOf_44 (q := 46) rfl ?_
    refine mh_iload_4 dX7_sideOf_46 (q := 48) rfl ?_
    refine mh_aload_0 dX7_sideOf_48 (q := 49) rfl ?_
    refine mh_getR fl_X7_19 dX7_sideOf_49 (q := 52) rfl (shX7_0 h7) rfl ?_
    refine mh_iload_1 dX7_sideOf_52 (q := 53) rfl ?_
    refine mh_iald dX7_sideOf_53 (q := 54) rfl (shX7_4 h7) (vp_in_nI (by have := hm.1; omega) (by decide)) ?_
    rw [hm.2.2.1]
    refine mh_idiv dX7_sideOf_54 (q := 55) rfl (gW0 hm.2.1) ?_
    refine mh_istore_7 dX7_sideOf_55 (q := 57) rfl ?_
    refine mh_iload_3 dX7_sideOf_57 (q := 58) rfl ?_
    by_cases c58_1 : (nI d) = 1
    · refine mh_lsw dX7_sideOf_58 (off := 31) (tgt := 89) (by decide) (by rw [c58_1]; decide) rfl ?_
      refine mh_iload_6 dX7_sideOf_89 (q := 91) rfl ?_
      refine mh_iconst_1 dX7_sideOf_91 (q := 92) rfl ?_
      refine mh_iadd dX7_sideOf_92 (q := 93) rfl ?_
      refine mh_aload_0 dX7_sideOf_93 (q := 94) rfl ?_
      refine mh_getR fl_X7_19 dX7_sideOf_94 (q := 97) rfl (shX7_0 h7) rfl ?_
      refine mh_iload_1 dX7_sideOf_97 (q := 98) rfl ?_
      refine mh_iald dX7_sideOf_98 (q := 99) rfl (shX7_4 h7) (vp_in_nI (by have := hm.1; omega) (by decide)) ?_
      rw [hm.2.2.1]
      refine mh_icmp_ge dX7_sideOf_99 (tgt := 113) (q := 102) rfl rfl (fun c99 => ?_) (fun c99 => ?_)
      · skip
        refine mh_iconst_3 dX7_sideOf_113 (q := 114) rfl ?_
        refine mh_iload_5 dX7_sideOf_114 (q := 116) rfl ?_
        refine mh_imul dX7_sideOf_116 (q := 117) rfl ?_
        refine mh_iload_7 dX7_sideOf_117 (q := 119) rfl ?_
        refine mh_iadd dX7_sideOf_119 (q := 120) rfl ?_
        refine mh_ireturn dX7_sideOf_120 rfl rfl ?_
        exact mh_cl hΦ (by grind [gSideI])
      · skip
        refine mh_iconst_3 dX7_sideOf_102 (q := 103) rfl ?_
        refine mh_iload_4 dX7_sideOf_103 (q := 105) rfl ?_
        refine mh_iconst_1 dX7_sideOf_105 (q := 106) rfl ?_
        refine mh_iadd dX7_sideOf_106 (q := 107) rfl ?_
        refine mh_imul dX7_sideOf_107 (q := 108) rfl ?_
        refine mh_iconst_1 dX7_sideOf_108 (q := 109) rfl ?_
        refine mh_iadd dX7_sideOf_109 (q := 110) rfl ?_
        refine mh_goto dX7_sideOf_110 (tgt := 120) rfl ?_
        refine mh_ireturn dX7_sideOf_120 rfl rfl ?_
        exact mh_cl hΦ (by grind [gSideI])
    by_cases c58_2 : (nI d) = 2
    · refine mh_lsw dX7_sideOf_58 (off := 26) (tgt := 84) (by decide) (by rw [c58_2]; decide) rfl ?_
      refine mh_iconst_3 dX7_sideOf_84 (q := 85) rfl ?_
      refine mh_iload_4 dX7_sideOf_85 (q := 87) rfl ?_
      refine mh_imul dX7_sideOf_87 (q := 88) rfl ?_
      refine mh_ireturn dX7_sideOf_88 rfl rfl ?_
      exact mh_cl hΦ (by grind [gSideI])
    refine mh_lsw dX7_sideOf_58 (off := 63) (tgt := 121) (by decide) (by have e1 : ¬ ((1 : Int) = Int32.toInt (nI d)) := fun e => c58_1 (Int32.toInt_inj.mp (e.symm.trans (by decide))); have e2 : ¬ ((2 : Int) = Int32.toInt (nI d)) := fun e => c58_2 (Int32.toInt_inj.mp (e.symm.trans (by decide))); simp [Op.lookupswitch.offset, e1, e2]) rfl ?_
    refine mh_iload_7 dX7_sideOf_121 (q := 123) rfl ?_
    refine mh_iconst_1 dX7_sideOf_123 (q := 124) rfl ?_
    refine mh_iadd dX7_sideOf_124 (q := 125) rfl ?_
    refine mh_aload_0 dX7_sideOf_125 (q := 126) rfl ?_
    refine mh_getR fl_X7_22 dX7_sideOf_126 (q := 129) rfl (shX7_0 h7) rfl ?_
    refine mh_iload_1 dX7_sideOf_129 (q := 130) rfl ?_
    refine mh_iald dX7_sideOf_130 (q := 131) rfl (shX7_5 h7) (vp_in_nI (by have := hm.1; omega) (by decide)) ?_
    rw [hm.2.2.2]
    refine mh_icmp_ge dX7_sideOf_131 (tgt := 150) (q := 134) rfl rfl (fun c131 => ?_) (fun c131 => ?_)
    · skip
      refine mh_iconst_3 dX7_sideOf_150 (q := 151) rfl ?_
      refine mh_iload_5 dX7_sideOf_151 (q := 153) rfl ?_
      refine mh_imul dX7_sideOf_153 (q := 154) rfl ?_
      refine mh_aload_0 dX7_sideOf_154 (q := 155) rfl ?_
      refine mh_getR fl_X7_22 dX7_sideOf_155 (q := 158) rfl (shX7_0 h7) rfl ?_
      refine mh_iload_1 dX7_sideOf_158 (q := 159) rfl ?_
      refine mh_iald dX7_sideOf_159 (q := 160) rfl (shX7_5 h7) (vp_in_nI (by have := hm.1; omega) (by decide)) ?_
      rw [hm.2.2.2]
      refine mh_iadd dX7_sideOf_160 (q := 161) rfl ?_
      refine mh_iload_6 dX7_sideOf_161 (q := 163) rfl ?_
      refine mh_iadd dX7_sideOf_163 (q := 164) rfl ?_
      refine mh_ireturn dX7_sideOf_164 rfl rfl ?_
      exact mh_cl hΦ (by grind [gSideI])
    · skip
      refine mh_iconst_3 dX7_sideOf_134 (q := 135) rfl ?_
      refine mh_iload_4 dX7_sideOf_135 (q := 137) rfl ?_
      refine mh_aload_0 dX7_sideOf_137 (q := 138) rfl ?_
      refine mh_getR fl_X7_19 dX7_sideOf_138 (q := 141) rfl (shX7_0 h7) rfl ?_
      refine mh_iload_1 dX7_sideOf_141 (q := 142) rfl ?_
      refine mh_iald dX7_sideOf_142 (q := 143) rfl (shX7_4 h7) (vp_in_nI (by have := hm.1; omega) (by decide)) ?_
      rw [hm.2.2.1]
      refine mh_iadd dX7_sideOf_143 (q := 144) rfl ?_
      refine mh_imul dX7_sideOf_144 (q := 145) rfl ?_
      refine mh_iconst_2 dX7_sideOf_145 (q := 146) rfl ?_
      refine mh_iadd dX7_sideOf_146 (q := 147) rfl ?_
      refine mh_goto dX7_sideOf_147 (tgt := 164) rfl ?_
      refine mh_ireturn dX7_sideOf_164 rfl rfl ?_
      exact mh_cl hΦ (by grind [gSideI])
  · skip
    refine mh_iconst_3 dX7_sideOf_26 (q := 27) rfl ?_
    refine mh_iload_4 dX7_sideOf_27 (q := 29) rfl ?_
    refine mh_imul dX7_sideOf_29 (q := 30) rfl ?_
    refine mh_iconst_2 dX7_sideOf_30 (q := 31) rfl ?_
    refine mh_iadd dX7_sideOf_31 (q := 32) rfl ?_
    refine mh_iload_3 dX7_sideOf_32 (q := 33) rfl ?_
    refine mh_isub dX7_sideOf_33 (q := 34) rfl ?_
    refine mh_ireturn dX7_sideOf_34 rfl rfl ?_
    exact mh_cl hΦ (by grind [gSideI])
set_option maxHeartbeats 4000000 in
set_option maxRecDepth 100000 in
theorem sp_X7_behind {l : Launch} {K : mhX} {Φ : mhQ} {S : List mhS} {F : mhF} {I : mhI} {J : mhJ} {P : mhP} (h7 : mhKX7 S) {j w h : Nat} (hm : mhHm I j w h) {r d : Nat} (hr : r < gRooms w h) (hd : d < 3) (hΦ : Φ (some (.int (gB w h r d))) S F I J P) : mhOk l K mX7_behind [.ref 21, .int (nI j), .int (nI r), .int (nI d)] S F I J P Φ := by
  refine mhOk.of (by decide) (by decide) rfl (Nat.le_of_ble_eq_true rfl) ?_
  rw [← (gI1 hm.2.1 hr hd).2] at hΦ
  refine mh_iload_2 dX7_behind_0 (q := 1) rfl ?_
  refine mh_iconst_2 dX7_behind_1 (q := 2) rfl ?_
  refine mh_idiv dX7_behind_2 (q := 3) rfl (by decide) ?_
  refine mh_istore_4 dX7_behind_3 (q := 5) rfl ?_
  refine mh_iload_4 dX7_behind_5 (q := 7) rfl ?_
  refine mh_aload_0 dX7_behind_7 (q := 8) rfl ?_
  refine mh_getR fl_X7_19 dX7_behind_8 (q := 11) rfl (shX7_0 h7) rfl ?_
  refine mh_iload_1 dX7_behind_11 (q := 12) rfl ?_
  refine mh_iald dX7_behind_12 (q := 13) rfl (shX7_4 h7) (vp_in_nI (by have := hm.1; omega) (by decide)) ?_
  rw [hm.2.2.1]
  refine mh_irem dX7_behind_13 (q := 14) rfl (gW0 hm.2.1) ?_
  refine mh_istore_5 dX7_behind_14 (q := 16) rfl ?_
  refine mh_iload_4 dX7_behind_16 (q := 18) rfl ?_
  refine mh_aload_0 dX7_behind_18 (q := 19) rfl ?_
  refine mh_getR fl_X7_19 dX7_behind_19 (q := 22) rfl (shX7_0 h7) rfl ?_
  refine mh_iload_1 dX7_behind_22 (q := 23) rfl ?_
  refine mh_iald dX7_behind_23 (q := 24) rfl (shX7_4 h7) (vp_in_nI (by have := hm.1; omega) (by decide)) ?_
  rw [hm.2.2.1]
  refine mh_idiv dX7_behind_24 (q := 25) rfl (gW0 hm.2.1) ?_
  refine mh_istore_6 dX7_behind_25 (q := 27) rfl ?_
  refine mh_iload_2 dX7_behind_27 (q := 28) rfl ?_
  refine mh_iconst_2 dX7_behind_28 (q := 29) rfl ?_
  refine mh_irem dX7_behind_29 (q := 30) rfl (by decide) ?_
  refine mh_if_ne dX7_behind_30 (tgt := 37) (q := 33) rfl rfl (fun c30 => ?_) (fun c30 => ?_)
  · skip
    refine mh_iconst_0 dX7_behind_37 (q := 38) rfl ?_
    refine mh_istore_7 dX7_behind_38 (q := 40) rfl ?_
    refine mh_iload_3 dX7_behind_40 (q := 41) rfl ?_
    by_cases c41_1 : (nI d) = 1
    · refine mh_lsw dX7_behind_41 (off := 42) (tgt := 83) (by decide) (by rw [c41_1]; decide) rfl ?_
      refine mh_iload_7 dX7_behind_83 (q := 85) rfl ?_
      refine mh_if_eq dX7_behind_85 (tgt := 102) (q := 88) rfl rfl (fun _ => ?_) (fun hh => False.elim (by revert hh; decide))
      refine mh_iload_5 dX7_behind_102 (q := 104) rfl ?_
      refine mh_iconst_1 dX7_behind_104 (q := 105) rfl ?_
      refine mh_iadd dX7_behind_105 (q := 106) rfl ?_
      refine mh_aload_0 dX7_behind_106 (q := 107) rfl ?_
      refine mh_getR fl_X7_19 dX7_behind_107 (q := 110) rfl (shX7_0 h7) rfl ?_
      refine mh_iload_1 dX7_behind_110 (q := 111) rfl ?_
      refine mh_iald dX7_behind_111 (q := 112) rfl (shX7_4 h7) (vp_in_nI (by have := hm.1; omega) (by decide)) ?_
      rw [hm.2.2.1]
      refine mh_icmp_ne dX7_behind_112 (tgt := 120) (q := 115) rfl rfl (fun c112 => ?_) (fun c112 => ?_)
      · skip
        refine mh_iload_2 dX7_behind_120 (q := 121) rfl ?_
        refine mh_iconst_1 dX7_behind_121 (q := 122) rfl ?_
        refine mh_iadd dX7_behind_122 (q := 123) rfl ?_
        refine mh_ireturn dX7_behind_123 rfl rfl ?_
        exact mh_cl hΦ (by grind [gBI])
      · skip
        refine mh_bipush (v := (-9)) dX7_behind_115 (q := 117) rfl (by decide) ?_
        refine mh_goto dX7_behind_117 (tgt := 123) rfl ?_
        refine mh_ireturn dX7_behind_123 rfl rfl ?_
        exact mh_cl hΦ (by grind [gBI])
    by_cases c41_2 : (nI d) = 2
    · refine mh_lsw dX7_behind_41 (off := 27) (tgt := 68) (by decide) (by rw [c41_2]; decide) rfl ?_
      refine mh_iload_7 dX7_behind_68 (q := 70) rfl ?_
      refine mh_if_eq dX7_behind_70 (tgt := 79) (q := 73) rfl rfl (fun _ => ?_) (fun hh => False.elim (by revert hh; decide))
      refine mh_iload_2 dX7_behind_79 (q := 80) rfl ?_
      refine mh_iconst_1 dX7_behind_80 (q := 81) rfl ?_
      refine mh_isub dX7_behind_81 (q := 82) rfl ?_
      refine mh_ireturn dX7_behind_82 rfl rfl ?_
      exact mh_cl hΦ (by grind [gBI])
    refine mh_lsw dX7_behind_41 (off := 83) (tgt := 124) (by decide) (by have e1 : ¬ ((1 : Int) = Int32.toInt (nI d)) := fun e => c41_1 (Int32.toInt_inj.mp (e.symm.trans (by decide))); have e2 : ¬ ((2 : Int) = Int32.toInt (nI d)) := fun e => c41_2 (Int32.toInt_inj.mp (e.symm.trans (by decide))); simp [Op.lookupswitch.offset, e1, e2]) rfl ?_
    refine mh_iload_7 dX7_behind_124 (q := 126) rfl ?_
    refine mh_if_eq dX7_behind_126 (tgt := 153) (q := 129) rfl rfl (fun _ => ?_) (fun hh => False.elim (by revert hh; decide))
    refine mh_iload_6 dX7_behind_153 (q := 155) rfl ?_
    refine mh_iconst_1 dX7_behind_155 (q := 156) rfl ?_
    refine mh_iadd dX7_behind_156 (q := 157) rfl ?_
    refine mh_aload_0 dX7_behind_157 (q := 158) rfl ?_
    refine mh_getR fl_X7_22 dX7_behind_158 (q := 161) rfl (shX7_0 h7) rfl ?_
    refine mh_iload_1 dX7_behind_161 (q := 162) rfl ?_
    refine mh_iald dX7_behind_162 (q := 163) rfl (shX7_5 h7) (vp_in_nI (by have := hm.1; omega) (by decide)) ?_
    rw [hm.2.2.2]
    refine mh_icmp_ne dX7_behind_163 (tgt := 171) (q := 166) rfl rfl (fun c163 => ?_) (fun c163 => ?_)
    · skip
      refine mh_iconst_2 dX7_behind_171 (q := 172) rfl ?_
      refine mh_iload_4 dX7_behind_172 (q := 174) rfl ?_
      refine mh_aload_0 dX7_behind_174 (q := 175) rfl ?_
      refine mh_getR fl_X7_19 dX7_behind_175 (q := 178) rfl (shX7_0 h7) rfl ?_
      refine mh_iload_1 dX7_behind_178 (q := 179) rfl ?_
      refine mh_iald dX7_behind_179 (q := 180) rfl (shX7_4 h7) (vp_in_nI (by have := hm.1; omega) (by decide)) ?_
      rw [hm.2.2.1]
      refine mh_iadd dX7_behind_180 (q := 181) rfl ?_
      refine mh_imul dX7_behind_181 (q := 182) rfl ?_
      refine mh_ireturn dX7_behind_182 rfl rfl ?_
      exact mh_cl hΦ (by grind [gBI])
    · skip
      refine mh_bipush (v := (-9)) dX7_behind_166 (q := 168) rfl (by decide) ?_
      refine mh_goto dX7_behind_168 (tgt := 182) rfl ?_
      refine mh_ireturn dX7_behind_182 rfl rfl ?_
      exact mh_cl hΦ (by grind [gBI])
  · skip
    refine mh_iconst_1 dX7_behind_33 (q := 34) rfl ?_
    refine mh_goto dX7_behind_34 (tgt := 38) rfl ?_
    refine mh_istore_7 dX7_behind_38 (q := 40) rfl ?_
    refine mh_iload_3 dX7_behind_40 (q := 41) rfl ?_
    by_cases c41_1 : (nI d) = 1
    · refine mh_lsw dX7_behind_41 (off := 42) (tgt := 83) (by decide) (by rw [c41_1]; decide) rfl ?_
      refine mh_iload_7 dX7_behind_83 (q := 85) rfl ?_
      refine mh_if_eq dX7_behind_85 (tgt := 102) (q := 88) rfl rfl (fun hh => False.elim (by revert hh; decide)) (fun _ => ?_)
      refine mh_iload_5 dX7_behind_88 (q := 90) rfl ?_
      refine mh_if_ne dX7_behind_90 (tgt := 98) (q := 93) rfl rfl (fun c90 => ?_) (fun c90 => ?_)
      · skip
        refine mh_iload_2 dX7_behind_98 (q := 99) rfl ?_
        refine mh_iconst_1 dX7_behind_99 (q := 100) rfl ?_
        refine mh_isub dX7_behind_100 (q := 101) rfl ?_
        refine mh_ireturn dX7_behind_101 rfl rfl ?_
        exact mh_cl hΦ (by grind [gBI])
      · skip
        refine mh_bipush (v := (-9)) dX7_behind_93 (q := 95) rfl (by decide) ?_
        refine mh_goto dX7_behind_95 (tgt := 101) rfl ?_
        refine mh_ireturn dX7_behind_101 rfl rfl ?_
        exact mh_cl hΦ (by grind [gBI])
    by_cases c41_2 : (nI d) = 2
    · refine mh_lsw dX7_behind_41 (off := 27) (tgt := 68) (by decide) (by rw [c41_2]; decide) rfl ?_
      refine mh_iload_7 dX7_behind_68 (q := 70) rfl ?_
      refine mh_if_eq dX7_behind_70 (tgt := 79) (q := 73) rfl rfl (fun hh => False.elim (by revert hh; decide)) (fun _ => ?_)
      refine mh_iload_2 dX7_behind_73 (q := 74) rfl ?_
      refine mh_iconst_1 dX7_behind_74 (q := 75) rfl ?_
      refine mh_iadd dX7_behind_75 (q := 76) rfl ?_
      refine mh_goto dX7_behind_76 (tgt := 82) rfl ?_
      refine mh_ireturn dX7_behind_82 rfl rfl ?_
      exact mh_cl hΦ (by grind [gBI])
    refine mh_lsw dX7_behind_41 (off := 83) (tgt := 124) (by decide) (by have e1 : ¬ ((1 : Int) = Int32.toInt (nI d)) := fun e => c41_1 (Int32.toInt_inj.mp (e.symm.trans (by decide))); have e2 : ¬ ((2 : Int) = Int32.toInt (nI d)) := fun e => c41_2 (Int32.toInt_inj.mp (e.symm.trans (by decide))); simp [Op.lookupswitch.offset, e1, e2]) rfl ?_
    refine mh_iload_7 dX7_behind_124 (q := 126) rfl ?_
    refine mh_if_eq dX7_behind_126 (tgt := 153) (q := 129) rfl rfl (fun hh => False.elim (by revert hh; decide)) (fun _ => ?_)
    refine mh_iload_6 dX7_behind_129 (q := 131) rfl ?_
    refine mh_if_ne dX7_behind_131 (tgt := 139) (q := 134) rfl rfl (fun c131 => ?_) (fun c131 => ?_)
    · skip
      refine mh_iconst_2 dX7_behind_139 (q := 140) rfl ?_
      refine mh_iload_4 dX7_behind_140 (q := 142) rfl ?_
      refine mh_aload_0 dX7_behind_142 (q := 143) rfl ?_
      refine mh_getR fl_X7_19 dX7_behind_143 (q := 146) rfl (shX7_0 h7) rfl ?_
      refine mh_iload_1 dX7_behind_146 (q := 147) rfl ?_
      refine mh_iald dX7_behind_147 (q := 148) rfl (shX7_4 h7) (vp_in_nI (by have := hm.1; omega) (by decide)) ?_
      rw [hm.2.2.1]
      refine mh_isub dX7_behind_148 (q := 149) rfl ?_
      refine mh_imul dX7_behind_149 (q := 150) rfl ?_
      refine mh_iconst_1 dX7_behind_150 (q := 151) rfl ?_
      refine mh_iadd dX7_behind_151 (q := 152) rfl ?_
      refine mh_ireturn dX7_behind_152 rfl rfl ?_
      exact mh_cl hΦ (by grind [gBI])
    · skip
      refine mh_bipush (v := (-9)) dX7_behind_134 (q := 136) rfl (by decide) ?_
      refine mh_goto dX7_behind_136 (tgt := 152) rfl ?_
      refine mh_ireturn dX7_behind_152 rfl rfl ?_
      exact mh_cl hΦ (by grind [gBI])
