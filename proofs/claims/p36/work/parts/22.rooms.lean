/-! rooms and sides: the class's and the reference's methods -/
def gSideI (w h r d : Int32) : Int32 := if r - r / 2 * 2 = 0 then 3 * (r / 2) + 2 - d else if d = 1 then (if r / 2 - r / 2 / w * w + 1 < w then 3 * (r / 2 + 1) + 1 else 3 * (w * h) + r / 2 / w) else if d = 2 then 3 * (r / 2) else (if r / 2 / w + 1 < h then 3 * (r / 2 + w) + 2 else 3 * (w * h) + h + (r / 2 - r / 2 / w * w))
def gBI (w h r d : Int32) : Int32 := if d = 1 then (if r - r / 2 * 2 = 0 then (if r / 2 - r / 2 / w * w = 0 then -9 else r - 1) else (if r / 2 - r / 2 / w * w + 1 = w then -9 else r + 1)) else if d = 2 then (if r - r / 2 * 2 = 0 then r + 1 else r - 1) else (if r - r / 2 * 2 = 0 then (if r / 2 / w = 0 then -9 else 2 * (r / 2 - w) + 1) else (if r / 2 / w + 1 = h then -9 else 2 * (r / 2 + w)))
theorem gI1l : ∀ w ∈ [1, 2, 3, 4], ∀ h ∈ [1, 2, 3], ∀ r ∈ List.range (gRooms w h), ∀ d ∈ [0, 1, 2], gSideI (nI w) (nI h) (nI r) (nI d) = nI (gSide w h r d) ∧ gBI (nI w) (nI h) (nI r) (nI d) = gB w h r d := by decide +kernel
theorem gI1 {w h r d : Nat} (g : gOk w h) (hr : r < gRooms w h) (hd : d < 3) : gSideI (nI w) (nI h) (nI r) (nI d) = nI (gSide w h r d) ∧ gBI (nI w) (nI h) (nI r) (nI d) = gB w h r d := gI1l w (gWl g.1 g.2.1) h (gHl g.2.2.1 g.2.2.2) r (List.mem_range.mpr hr) d (gDl hd)
theorem gW0 {w h : Nat} (g : gOk w h) : ¬ nI w = 0 := nI_ne0 g.1 (by have := g.2.1; omega)
theorem gRm {w h : Nat} (g : gOk w h) : (2 : Int32) * nI w * nI h = nI (gRooms w h) := by rw [show (2 : Int32) = nI 2 from rfl, pk_mul, pk_mul]; rfl
theorem gSd {w h : Nat} (g : gOk w h) : (3 : Int32) * nI w * nI h + nI w + nI h = nI (gSides w h) := by rw [show (3 : Int32) = nI 3 from rfl, pk_mul, pk_mul, nI_add, nI_add]; rfl
theorem mh_ev (r : Nat) (hr : r < 2 ^ 31) : nI r - nI r / 2 * 2 = nI (r % 2) := by rw [show (2 : Int32) = nI 2 from rfl]; exact pk_rem hr (by decide) (by decide)
theorem mh_ev0 (r : Nat) (hr : r < 2 ^ 31) : nI r - nI r / 2 * 2 = 0 ↔ r % 2 = 0 := by
  rw [mh_ev r hr, show (0 : Int32) = nI 0 from rfl, nI_eq (by omega) (by decide)]
theorem mh_bet {x : Int32} {n : Nat} (hn : n < 2 ^ 30) : (0 ≤ x ∧ x ≤ nI n - 1) ↔ ∃ r, r < n ∧ x = nI r := by
  have e1 : (nI n - 1 : Int32).toInt = (n : Int) - 1 := by
    rw [show (1 : Int32) = nI 1 from rfl, pk_sub_toInt hn (by decide)]; rfl
  constructor
  · rintro ⟨h0, h1⟩
    obtain ⟨r, hr, rfl⟩ := nI_of (Int32.not_lt.mpr h0)
    refine ⟨r, ?_, rfl⟩
    rw [fa_le, e1, nI_toInt hr] at h1
    omega
  · rintro ⟨r, hr, rfl⟩
    refine ⟨nI_pos' (by omega), ?_⟩
    rw [fa_le, e1, nI_toInt (by omega)]
    omega
theorem mh_lt {x : Int32} {n : Nat} (hn : n < 2 ^ 31) : (0 ≤ x ∧ x < nI n) ↔ ∃ r, r < n ∧ x = nI r := by
  constructor
  · rintro ⟨h0, h1⟩
    obtain ⟨r, hr, rfl⟩ := nI_of (Int32.not_lt.mpr h0)
    exact ⟨r, (nI_ltI hr hn).mp h1, rfl⟩
  · rintro ⟨r, hr, rfl⟩
    exact ⟨nI_pos' (by omega), nI_lt hr hn⟩
/-- a house of the class at a -/
def mhHs (S : List mhS) (F : mhF) (I : mhI) (a w h : Nat) : Prop := mhKX1 S a ∧ gOk w h ∧ F a 0 = nI w ∧ F a 1 = nI h ∧ F a 2 = nI (gRooms w h) ∧ F a 3 = nI (gSides w h) ∧ (∀ b, b < 4 → ∀ j, I (a + 3 + b) j = mhTab w h b j) ∧ I (a + 10) 0 = 1 - 2 * nI w ∧ I (a + 10) 1 = -1 ∧ I (a + 10) 2 = 1 ∧ 21 ≤ a
/-- a house of the reference, its number j -/
def mhHm (I : mhI) (j w h : Nat) : Prop := j < 3 ∧ gOk w h ∧ I 25 (nI j) = nI w ∧ I 26 (nI j) = nI h
def vRm (w h : Nat) (x : Int32) : Prop := ∃ r, r < gRooms w h ∧ x = nI r
def vSd (w h : Nat) (x : Int32) : Prop := ∃ k, k < gSides w h ∧ x = nI k
set_option maxHeartbeats 4000000 in
set_option maxRecDepth 100000 in
theorem sp_X1_hasRoom {l : Launch} {K : mhX} {Φ : mhQ} {S : List mhS} {F : mhF} {I : mhI} {J : mhJ} {P : mhP} {a w h : Nat} (hH : mhHs S F I a w h) {x : Int32} (ht : ∀ r, r < gRooms w h → x = nI r → Φ (some (.int 1)) S F I J P) (hf : ¬ vRm w h x → Φ (some (.int 0)) S F I J P) : mhOk l K mX1_hasRoom [.ref a, .int x] S F I J P Φ := by
  refine mhOk.of (by decide) (by decide) rfl (Nat.le_of_ble_eq_true rfl) ?_
  refine mh_iload_1 dX1_hasRoom_0 (q := 1) rfl ?_
  refine mh_iconst_0 dX1_hasRoom_1 (q := 2) rfl ?_
  refine mh_aload_0 dX1_hasRoom_2 (q := 3) rfl ?_
  refine mh_getI fl_X1_61 dX1_hasRoom_3 (q := 6) rfl (shX1_0 hH.1) rfl ?_
  rw [hH.2.2.2.2.1]
  refine mh_iconst_1 dX1_hasRoom_6 (q := 7) rfl ?_
  refine mh_isub dX1_hasRoom_7 (q := 8) rfl ?_
  refine mh_callN3 ca_X1_hasRoom_8 (q := 11) rfl (by simp [Value.category]) ⟨Nat.zero_le _, Nat.zero_le _⟩ ?_
  refine sp_X6_within (fun c8 => ?_) (fun c8 => ?_)
  · skip
    refine mh_ireturn dX1_hasRoom_11 rfl rfl ?_
    have hb := gBd hH.2.1
    rw [mh_bet (by omega)] at c8
    obtain ⟨r, hr, e⟩ := c8
    exact ht r hr e
  · skip
    refine mh_ireturn dX1_hasRoom_11 rfl rfl ?_
    have hb := gBd hH.2.1
    rw [mh_bet (by omega)] at c8
    exact hf c8
set_option maxHeartbeats 4000000 in
set_option maxRecDepth 100000 in
theorem sp_X1_hasSide {l : Launch} {K : mhX} {Φ : mhQ} {S : List mhS} {F : mhF} {I : mhI} {J : mhJ} {P : mhP} {a w h : Nat} (hH : mhHs S F I a w h) {x : Int32} (ht : ∀ r, r < gSides w h → x = nI r → Φ (some (.int 1)) S F I J P) (hf : ¬ vSd w h x → Φ (some (.int 0)) S F I J P) : mhOk l K mX1_hasSide [.ref a, .int x] S F I J P Φ := by
  refine mhOk.of (by decide) (by decide) rfl (Nat.le_of_ble_eq_true rfl) ?_
  refine mh_iload_1 dX1_hasSide_0 (q := 1) rfl ?_
  refine mh_iconst_0 dX1_hasSide_1 (q := 2) rfl ?_
  refine mh_aload_0 dX1_hasSide_2 (q := 3) rfl ?_
  refine mh_getI fl_X1_68 dX1_hasSide_3 (q := 6) rfl (shX1_0 hH.1) rfl ?_
  rw [hH.2.2.2.2.2.1]
  refine mh_iconst_1 dX1_hasSide_6 (q := 7) rfl ?_
  refine mh_isub dX1_hasSide_7 (q := 8) rfl ?_
  refine mh_callN3 ca_X1_hasSide_8 (q := 11) rfl (by simp [Value.category]) ⟨Nat.zero_le _, Nat.zero_le _⟩ ?_
  refine sp_X6_within (fun c8 => ?_) (fun c8 => ?_)
  · skip
    refine mh_ireturn dX1_hasSide_11 rfl rfl ?_
    have hb := gBd hH.2.1
    rw [mh_bet (by omega)] at c8
    obtain ⟨r, hr, e⟩ := c8
    exact ht r hr e
  · skip
    refine mh_ireturn dX1_hasSide_11 rfl rfl ?_
    have hb := gBd hH.2.1
    rw [mh_bet (by omega)] at c8
    exact hf c8
set_option maxHeartbeats 4000000 in
set_option maxRecDepth 100000 in
theorem sp_X1_allRooms {l : Launch} {K : mhX} {Φ : mhQ} {S : List mhS} {F : mhF} {I : mhI} {J : mhJ} {P : mhP} {a w h : Nat} (hH : mhHs S F I a w h) (hΦ : Φ (some (.int ((1 <<< (nI (gRooms w h) &&& 31)) - 1))) S F I J P) : mhOk l K mX1_allRooms [.ref a] S F I J P Φ := by
  refine mhOk.of (by decide) (by decide) rfl (Nat.le_of_ble_eq_true rfl) ?_
  refine mh_iconst_1 dX1_allRooms_0 (q := 1) rfl ?_
  refine mh_aload_0 dX1_allRooms_1 (q := 2) rfl ?_
  refine mh_getI fl_X1_61 dX1_allRooms_2 (q := 5) rfl (shX1_0 hH.1) rfl ?_
  rw [hH.2.2.2.2.1]
  refine mh_ishl dX1_allRooms_5 (q := 6) rfl ?_
  refine mh_iconst_1 dX1_allRooms_6 (q := 7) rfl ?_
  refine mh_isub dX1_allRooms_7 (q := 8) rfl ?_
  refine mh_ireturn dX1_allRooms_8 rfl rfl ?_
  exact hΦ
set_option maxHeartbeats 4000000 in
set_option maxRecDepth 100000 in
theorem sp_X1_sideOf {l : Launch} {K : mhX} {Φ : mhQ} {S : List mhS} {F : mhF} {I : mhI} {J : mhJ} {P : mhP} {a w h : Nat} (hH : mhHs S F I a w h) {r d : Nat} (hr : r < gRooms w h) (hd : d < 3) (hΦ : Φ (some (.int (nI (gSide w h r d)))) S F I J P) : mhOk l K mX1_sideOf [.ref a, .int (nI r), .int (nI d)] S F I J P Φ := by
  refine mhOk.of (by decide) (by decide) rfl (Nat.le_of_ble_eq_true rfl) ?_
  refine mh_aload_0 dX1_sideOf_0 (q := 1) rfl ?_
  refine mh_getR fl_X1_40 dX1_sideOf_1 (q := 4) rfl (shX1_0 hH.1) rfl ?_
  refine mh_iconst_3 dX1_sideOf_4 (q := 5) rfl ?_
  refine mh_iload_1 dX1_sideOf_5 (q := 6) rfl ?_
  refine mh_imul dX1_sideOf_6 (q := 7) rfl ?_
  refine mh_iload_2 dX1_sideOf_7 (q := 8) rfl ?_
  refine mh_iadd dX1_sideOf_8 (q := 9) rfl ?_
  have hb := gBd hH.2.1
  rw [show (3 : Int32) * nI r + nI d = nI (3 * r + d) by rw [show (3 : Int32) = nI 3 from rfl, pk_mul, nI_add]]
  refine mh_iald dX1_sideOf_9 (q := 10) rfl (shX1_6 hH.1) (vp_in_nI (by omega) (by decide)) ?_
  rw [show I (a + 6) (nI (3 * r + d)) = nI (gSide w h r d) from (hH.2.2.2.2.2.2.1 3 (by decide) _).trans (gT1 hH.2.1 hr hd).1]
  refine mh_ireturn dX1_sideOf_10 rfl rfl ?_
  exact hΦ
set_option maxHeartbeats 4000000 in
set_option maxRecDepth 100000 in
theorem sp_X1_behind {l : Launch} {K : mhX} {Φ : mhQ} {S : List mhS} {F : mhF} {I : mhI} {J : mhJ} {P : mhP} {a w h : Nat} (hH : mhHs S F I a w h) {r d : Nat} (hr : r < gRooms w h) (hd : d < 3) (hΦ : Φ (some (.int (gB w h r d))) S F I J P) : mhOk l K mX1_behind [.ref a, .int (nI r), .int (nI d)] S F I J P Φ := by
  refine mhOk.of (by decide) (by decide) rfl (Nat.le_of_ble_eq_true rfl) ?_
  refine mh_aload_0 dX1_behind_0 (q := 1) rfl ?_
  refine mh_iload_1 dX1_behind_1 (q := 2) rfl ?_
  refine mh_iload_2 dX1_behind_2 (q := 3) rfl ?_
  refine mh_callV2 ca_X1_behind_3 (shX1_0 hH.1) (q := 6) rfl (by simp [Value.category]) ⟨Nat.zero_le _, Nat.zero_le _⟩ ?_
  refine sp_X1_sideOf hH (by assumption) (by assumption) ?_
  have hb := gBd hH.2.1
  have q1 := (gT1 hH.2.1 hr hd).2.1
  have q2 := (gT1 hH.2.1 hr hd).2.2.1
  refine mh_istore_3 dX1_behind_6 (q := 7) rfl ?_
  refine mh_iload_1 dX1_behind_7 (q := 8) rfl ?_
  refine mh_iconst_2 dX1_behind_8 (q := 9) rfl ?_
  refine mh_irem dX1_behind_9 (q := 10) rfl (by decide) ?_
  refine mh_if_ne dX1_behind_10 (tgt := 22) (q := 13) rfl rfl (fun c10 => ?_) (fun c10 => ?_)
  · skip
    refine mh_aload_0 dX1_behind_22 (q := 23) rfl ?_
    refine mh_getR fl_X1_21 dX1_behind_23 (q := 26) rfl (shX1_0 hH.1) rfl ?_
    refine mh_iload_3 dX1_behind_26 (q := 27) rfl ?_
    refine mh_iald dX1_behind_27 (q := 28) rfl (shX1_4 hH.1) (vp_in_nI (by omega) (by decide)) ?_
    refine mh_ireturn dX1_behind_28 rfl rfl ?_
    rw [mh_ev0 r (by omega)] at c10
    first | (rw [if_pos (by simpa using c10)] at q2; rw [show I (a + 5) (nI (gSide w h r d)) = gB w h r d from (hH.2.2.2.2.2.2.1 2 (by decide) _).trans q2]; exact hΦ) | (rw [if_neg (by simpa using c10)] at q2; rw [show I (a + 4) (nI (gSide w h r d)) = gB w h r d from (hH.2.2.2.2.2.2.1 1 (by decide) _).trans q2]; exact hΦ)
  · skip
    refine mh_aload_0 dX1_behind_13 (q := 14) rfl ?_
    refine mh_getR fl_X1_24 dX1_behind_14 (q := 17) rfl (shX1_0 hH.1) rfl ?_
    refine mh_iload_3 dX1_behind_17 (q := 18) rfl ?_
    refine mh_iald dX1_behind_18 (q := 19) rfl (shX1_5 hH.1) (vp_in_nI (by omega) (by decide)) ?_
    refine mh_goto dX1_behind_19 (tgt := 28) rfl ?_
    refine mh_ireturn dX1_behind_28 rfl rfl ?_
    rw [mh_ev0 r (by omega)] at c10
    first | (rw [if_pos (by simpa using c10)] at q2; rw [show I (a + 5) (nI (gSide w h r d)) = gB w h r d from (hH.2.2.2.2.2.2.1 2 (by decide) _).trans q2]; exact hΦ) | (rw [if_neg (by simpa using c10)] at q2; rw [show I (a + 4) (nI (gSide w h r d)) = gB w h r d from (hH.2.2.2.2.2.2.1 1 (by decide) _).trans q2]; exact hΦ)
