/-! houses: ofHouse, ofSide, side, pane -/
def mhOhR (w h : Nat) (cn : Int32 → Int32) (sm what : Int32) : Int32 := if what = 0 then nI w else if what = 1 then nI h else if what = 2 then nI (gRooms w h) else if what = 3 then nI (gSides w h) else if what = 4 then cn 0 else if what = 5 then cn 1 else if what = 6 then cn 2 else if what = 7 then sm else -2
def mhOsR (w h k : Nat) (kd sm what : Int32) : Int32 := if what = 0 then kd else if what = 1 then mhTab w h 0 (nI k) else if what = 2 then mhTab w h 1 (nI k) else if what = 3 then mhTab w h 2 (nI k) else if what = 4 then sm else -2
def mhSiR (w h r : Nat) (way : Int32) : Int32 := if way = 0 then nI (gSide w h r 0) else if way = 1 then nI (gSide w h r 1) else if way = 2 then nI (gSide w h r 2) else -2
theorem mh_way {x : Int32} (h : 0 ≤ x ∧ x ≤ 2) : ∃ d, d < 3 ∧ x = nI d := mh_of2 (n := 2) rfl h.1 h.2
theorem mhSiR_at {w h r d : Nat} (hd : d < 3) : mhSiR w h r (nI d) = nI (gSide w h r d) := by
  rcases (show d = 0 ∨ d = 1 ∨ d = 2 by omega) with rfl | rfl | rfl <;> rfl
theorem mhSiR_no {w h r : Nat} {x : Int32} (hx : ¬ (0 ≤ x ∧ x ≤ 2)) : mhSiR w h r x = -2 := by grind [mhSiR]
set_option maxHeartbeats 4000000 in
set_option maxRecDepth 100000 in
theorem sp_X6_pane {l : Launch} {K : mhX} {Φ : mhQ} {S : List mhS} {F : mhF} {I : mhI} {J : mhJ} {P : mhP} {nh : Nat} {wd hg aH : Nat → Nat} (hC : mhHC S F I P nh wd hg aH) {x y v : Int32} (hn : ¬ vHS nh wd hg x y → Φ (some (.int (-1))) S F I J P) (hb : ∀ j r, j < nh → r < gSides (wd j) (hg j) → x = nI j → y = nI r → ¬ mhSo v → Φ (some (.int (-2))) S F I J P) (ht : ∀ j r, j < nh → r < gSides (wd j) (hg j) → x = nI j → y = nI r → mhSo v → Φ (some (.int (I (aH j + 1) (nI r)))) S F (if I (aH j + 1) (nI r) = v then mhUI I (aH j + 1) (nI r) v else mhUI (mhUI I (aH j + 1) (nI r) v) (aH j + 2) (nI r) 0) J P) : mhOk l K mX6_pane [.ref 0, .int x, .int y, .int v] S F I J P Φ := by
  refine mhOk.of (by decide) (by decide) rfl (Nat.le_of_ble_eq_true rfl) ?_
  refine mh_aload_0 dX6_pane_0 (q := 1) rfl ?_
  refine mh_iload_1 dX6_pane_1 (q := 2) rfl ?_
  refine mh_callV1 ca_X6_pane_2 (shX6_0 hC.1) (q := 5) rfl (by simp [Value.category]) ⟨Nat.zero_le _, Nat.zero_le _⟩ ?_
  refine sp_X6_houseAt hC (fun hk => ?_) (fun j hj ej => ?_)
  · skip
    refine mh_astoreN_4 dX6_pane_5 (q := 7) rfl ?_
    refine mh_aloadN_4 dX6_pane_7 (q := 9) rfl ?_
    refine mh_ifnullN dX6_pane_9 (tgt := 21) rfl ?_
    refine mh_iconst_m1 dX6_pane_21 (q := 22) rfl ?_
    refine mh_ireturn dX6_pane_22 rfl rfl ?_
    exact hn (fun ⟨i, hi, e, e1⟩ => by first | exact hk ⟨i, hi, e⟩ | (have e4 : j = i := (nI_eq (by have := hC.2.1; omega) (by have := hC.2.1; omega)).mp e; subst e4; exact hk e1))
  · skip
    subst ej
    refine mh_astore_4 dX6_pane_5 (q := 7) rfl ?_
    refine mh_aload_4 dX6_pane_7 (q := 9) rfl ?_
    refine mh_ifnullR dX6_pane_9 (q := 12) rfl ?_
    refine mh_aload_4 dX6_pane_12 (q := 14) rfl ?_
    refine mh_iload_2 dX6_pane_14 (q := 15) rfl ?_
    refine mh_callV1 ca_X6_pane_15 (shX1_0 (hC.2.2.2 j hj).2.1) (q := 18) rfl (by simp [Value.category]) ⟨Nat.zero_le _, Nat.zero_le _⟩ ?_
    refine sp_X1_hasSide (hC.2.2.2 j hj).2 (fun r hr er => ?_) (fun hk => ?_)
    · skip
      subst er
      refine mh_if_ne dX6_pane_18 (tgt := 23) (q := 21) rfl rfl (fun _ => ?_) (fun hh => False.elim (by revert hh; decide))
      refine mh_iload_3 dX6_pane_23 (q := 24) rfl ?_
      refine mh_iconst_0 dX6_pane_24 (q := 25) rfl ?_
      refine mh_iconst_2 dX6_pane_25 (q := 26) rfl ?_
      refine mh_callS3 ca_X6_pane_26 (q := 29) rfl (by simp [Value.category]) ⟨Nat.zero_le _, Nat.zero_le _⟩ ?_
      refine sp_X6_within (fun cw => ?_) (fun cw => ?_)
      · skip
        refine mh_if_eq dX6_pane_29 (tgt := 42) (q := 32) rfl rfl (fun hh => False.elim (by revert hh; decide)) (fun _ => ?_)
        refine mh_aload_4 dX6_pane_32 (q := 34) rfl ?_
        refine mh_iload_2 dX6_pane_34 (q := 35) rfl ?_
        refine mh_iload_3 dX6_pane_35 (q := 36) rfl ?_
        refine mh_callV2 ca_X6_pane_36 (shX1_0 (hC.2.2.2 j hj).2.1) (q := 39) rfl (by simp [Value.category]) ⟨Nat.zero_le _, Nat.zero_le _⟩ ?_
        refine sp_X1_become (hC.2.2.2 j hj).2 hr ?_
        refine mh_goto dX6_pane_39 (tgt := 44) rfl ?_
        refine mh_ireturn dX6_pane_44 rfl rfl ?_
        first | exact ht j r hj hr rfl rfl cw | exact hb j r hj hr rfl rfl cw
      · skip
        refine mh_if_eq dX6_pane_29 (tgt := 42) (q := 32) rfl rfl (fun _ => ?_) (fun hh => False.elim (by revert hh; decide))
        refine mh_bipush (v := (-2)) dX6_pane_42 (q := 44) rfl (by decide) ?_
        refine mh_ireturn dX6_pane_44 rfl rfl ?_
        first | exact ht j r hj hr rfl rfl cw | exact hb j r hj hr rfl rfl cw
    · skip
      refine mh_if_ne dX6_pane_18 (tgt := 23) (q := 21) rfl rfl (fun hh => False.elim (by revert hh; decide)) (fun _ => ?_)
      refine mh_iconst_m1 dX6_pane_21 (q := 22) rfl ?_
      refine mh_ireturn dX6_pane_22 rfl rfl ?_
      exact hn (fun ⟨i, hi, e, e1⟩ => by first | exact hk ⟨i, hi, e⟩ | (have e4 : j = i := (nI_eq (by have := hC.2.1; omega) (by have := hC.2.1; omega)).mp e; subst e4; exact hk e1))
