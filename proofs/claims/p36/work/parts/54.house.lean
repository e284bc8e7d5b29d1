/-! a house is made -/
/-- the four tables of the house at a -/
def tbl (I : mhI) (a : Nat) (T : mhI) : Prop := ∀ b, b < 4 → ∀ y, I (a + 3 + b) y = T b y
def frT4 (a : Nat) (I I2 : mhI) : Prop := ∀ c y, ¬ (a + 3 ≤ c ∧ c ≤ a + 6) → I2 c y = I c y
theorem frT4.rf {a : Nat} {I : mhI} : frT4 a I I := fun _ _ _ => rfl
theorem frT4.tr {a : Nat} {I I1 I2 : mhI} (h : frT4 a I I1) (h2 : frT4 a I1 I2) : frT4 a I I2 := fun c y e => (h2 c y e).trans (h c y e)
theorem tbl.up {I : mhI} {a t : Nat} {T : mhI} {i v : Int32} (h : tbl I a T) (ht : t < 4) : tbl (mhUI I (a + 3 + t) i v) a (mhUI T t i v) := fun b hb y => by
  unfold mhUI
  by_cases c : b = t ∧ y = i
  · rw [if_pos c, if_pos ⟨by omega, c.2⟩]
  · rw [if_neg c, if_neg (fun z => c ⟨by omega, z.2⟩)]; exact h b hb y
theorem gXYl : ∀ w ∈ [1, 2, 3, 4], ∀ h ∈ [1, 2, 3], w * h ≤ 12 ∧ 3 * w * h + w + h ≤ 43 ∧ 3 * w * h = 3 * (w * h) ∧ (∀ x ∈ List.range w, ∀ y ∈ List.range h, w * y + x < w * h) := by decide
theorem gXY {w h : Nat} (g : gOk w h) : w * h ≤ 12 ∧ 3 * w * h + w + h ≤ 43 ∧ 3 * w * h = 3 * (w * h) ∧ (∀ x y, x < w → y < h → w * y + x < w * h) := by
  obtain ⟨h1, h2, h3, h4⟩ := gXYl w (gWl g.1 g.2.1) h (gHl g.2.2.1 g.2.2.2)
  exact ⟨h1, h2, h3, fun x y hx hy => h4 x (List.mem_range.mpr hx) y (List.mem_range.mpr hy)⟩
set_option maxHeartbeats 4000000 in
set_option maxRecDepth 100000 in
theorem sp_X1_place {l : Launch} {K : mhX} {Φ : mhQ} {S : List mhS} {F : mhF} {I : mhI} {J : mhJ} {P : mhP} {a : Nat} (k1 : mhKX1 S a) {side way even odd : Int32} {T : mhI} (ht : tbl I a T) (h1 : vp_in side 43) (h2 : even = -9 ∨ vp_in (3 * even + way) 72) (h3 : odd = -9 ∨ vp_in (3 * odd + way) 72) (hΦ : ∀ I2 : mhI, tbl I2 a (mhPl side way even odd T) → frT4 a I I2 → Φ none S F I2 J P) : mhOk l K mX1_place [.ref a, .int side, .int way, .int even, .int odd] S F I J P Φ := by
  refine mhOk.of (by decide) (by decide) rfl (Nat.le_of_ble_eq_true rfl) ?_
  refine mh_aload_0 dX1_place_0 (q := 1) rfl ?_
  refine mh_getR fl_X1_18 dX1_place_1 (q := 4) rfl (shX1_0 k1) rfl ?_
  refine mh_iload_1 dX1_place_4 (q := 5) rfl ?_
  refine mh_iload_2 dX1_place_5 (q := 6) rfl ?_
  refine mh_iast dX1_place_6 (q := 7) rfl (shX1_3 k1) (by decide) h1 ?_
  refine mh_aload_0 dX1_place_7 (q := 8) rfl ?_
  refine mh_getR fl_X1_21 dX1_place_8 (q := 11) rfl (shX1_0 k1) rfl ?_
  refine mh_iload_1 dX1_place_11 (q := 12) rfl ?_
  refine mh_iload_3 dX1_place_12 (q := 13) rfl ?_
  refine mh_iast dX1_place_13 (q := 14) rfl (shX1_4 k1) (by decide) h1 ?_
  refine mh_aload_0 dX1_place_14 (q := 15) rfl ?_
  refine mh_getR fl_X1_24 dX1_place_15 (q := 18) rfl (shX1_0 k1) rfl ?_
  refine mh_iload_1 dX1_place_18 (q := 19) rfl ?_
  refine mh_iload_4 dX1_place_19 (q := 21) rfl ?_
  refine mh_iast dX1_place_21 (q := 22) rfl (shX1_5 k1) (by decide) h1 ?_
  refine mh_iload_3 dX1_place_22 (q := 23) rfl ?_
  refine mh_bipush (v := (-9)) dX1_place_23 (q := 25) rfl (by decide) ?_
  refine mh_icmp_eq dX1_place_25 (tgt := 39) (q := 28) rfl rfl (fun c25 => ?_) (fun c25 => ?_)
  · skip
    refine mh_iload_4 dX1_place_39 (q := 41) rfl ?_
    refine mh_bipush (v := (-9)) dX1_place_41 (q := 43) rfl (by decide) ?_
    refine mh_icmp_eq dX1_place_43 (tgt := 58) (q := 46) rfl rfl (fun c43 => ?_) (fun c43 => ?_)
    · skip
      refine mh_return dX1_place_58 rfl ?_
      refine hΦ _ ?_ (fun c y e => by repeat rw [mhUI_ne (by omega)])
      unfold mhPl
      dsimp only
      rw [if_pos c25, if_pos c43]
      exact ((ht.up (t := 0) (by decide)).up (t := 1) (by decide)).up (t := 2) (by decide)
    · skip
      refine mh_aload_0 dX1_place_46 (q := 47) rfl ?_
      refine mh_getR fl_X1_40 dX1_place_47 (q := 50) rfl (shX1_0 k1) rfl ?_
      refine mh_iconst_3 dX1_place_50 (q := 51) rfl ?_
      refine mh_iload_4 dX1_place_51 (q := 53) rfl ?_
      refine mh_imul dX1_place_53 (q := 54) rfl ?_
      refine mh_iload_2 dX1_place_54 (q := 55) rfl ?_
      refine mh_iadd dX1_place_55 (q := 56) rfl ?_
      refine mh_iload_1 dX1_place_56 (q := 57) rfl ?_
      refine mh_iast dX1_place_57 (q := 58) rfl (shX1_6 k1) (by decide) (h3.resolve_left c43) ?_
      refine mh_return dX1_place_58 rfl ?_
      refine hΦ _ ?_ (fun c y e => by repeat rw [mhUI_ne (by omega)])
      unfold mhPl
      dsimp only
      rw [if_pos c25, if_neg c43]
      exact (((ht.up (t := 0) (by decide)).up (t := 1) (by decide)).up (t := 2) (by decide)).up (t := 3) (by decide)
  · skip
    refine mh_aload_0 dX1_place_28 (q := 29) rfl ?_
    refine mh_getR fl_X1_40 dX1_place_29 (q := 32) rfl (shX1_0 k1) rfl ?_
    refine mh_iconst_3 dX1_place_32 (q := 33) rfl ?_
    refine mh_iload_3 dX1_place_33 (q := 34) rfl ?_
    refine mh_imul dX1_place_34 (q := 35) rfl ?_
    refine mh_iload_2 dX1_place_35 (q := 36) rfl ?_
    refine mh_iadd dX1_place_36 (q := 37) rfl ?_
    refine mh_iload_1 dX1_place_37 (q := 38) rfl ?_
    refine mh_iast dX1_place_38 (q := 39) rfl (shX1_6 k1) (by decide) (h2.resolve_left c25) ?_
    refine mh_iload_4 dX1_place_39 (q := 41) rfl ?_
    refine mh_bipush (v := (-9)) dX1_place_41 (q := 43) rfl (by decide) ?_
    refine mh_icmp_eq dX1_place_43 (tgt := 58) (q := 46) rfl rfl (fun c43 => ?_) (fun c43 => ?_)
    · skip
      refine mh_return dX1_place_58 rfl ?_
      refine hΦ _ ?_ (fun c y e => by repeat rw [mhUI_ne (by omega)])
      unfold mhPl
      dsimp only
      rw [if_neg c25, if_pos c43]
      exact (((ht.up (t := 0) (by decide)).up (t := 1) (by decide)).up (t := 2) (by decide)).up (t := 3) (by decide)
    · skip
      refine mh_aload_0 dX1_place_46 (q := 47) rfl ?_
      refine mh_getR fl_X1_40 dX1_place_47 (q := 50) rfl (shX1_0 k1) rfl ?_
      refine mh_iconst_3 dX1_place_50 (q := 51) rfl ?_
      refine mh_iload_4 dX1_place_51 (q := 53) rfl ?_
      refine mh_imul dX1_place_53 (q := 54) rfl ?_
      refine mh_iload_2 dX1_place_54 (q := 55) rfl ?_
      refine mh_iadd dX1_place_55 (q := 56) rfl ?_
      refine mh_iload_1 dX1_place_56 (q := 57) rfl ?_
      refine mh_iast dX1_place_57 (q := 58) rfl (shX1_6 k1) (by decide) (h3.resolve_left c43) ?_
      refine mh_return dX1_place_58 rfl ?_
      refine hΦ _ ?_ (fun c y e => by repeat rw [mhUI_ne (by omega)])
      unfold mhPl
      dsimp only
      rw [if_neg c25, if_neg c43]
      exact ((((ht.up (t := 0) (by decide)).up (t := 1) (by decide)).up (t := 2) (by decide)).up (t := 3) (by decide)).up (t := 3) (by decide)
set_option maxHeartbeats 4000000 in
set_option maxRecDepth 100000 in
theorem sp_X1_second {l : Launch} {K : mhX} {Φ : mhQ} {S : List mhS} {F : mhF} {I : mhI} {J : mhJ} {P : mhP} {a w x y : Nat} (k1 : mhKX1 S a) (hw : F a 0 = nI w) (hΦ : Φ (some (.int (mhSec w x y))) S F I J P) : mhOk l K mX1_second [.ref a, .int (nI x), .int (nI y)] S F I J P Φ := by
  refine mhOk.of (by decide) (by decide) rfl (Nat.le_of_ble_eq_true rfl) ?_
  refine mh_iconst_2 dX1_second_0 (q := 1) rfl ?_
  refine mh_aload_0 dX1_second_1 (q := 2) rfl ?_
  refine mh_getI fl_X1_55 dX1_second_2 (q := 5) rfl (shX1_0 k1) rfl ?_
  rw [hw]
  refine mh_iload_2 dX1_second_5 (q := 6) rfl ?_
  refine mh_imul dX1_second_6 (q := 7) rfl ?_
  refine mh_iload_1 dX1_second_7 (q := 8) rfl ?_
  refine mh_iadd dX1_second_8 (q := 9) rfl ?_
  refine mh_imul dX1_second_9 (q := 10) rfl ?_
  refine mh_iconst_1 dX1_second_10 (q := 11) rfl ?_
  refine mh_iadd dX1_second_11 (q := 12) rfl ?_
  refine mh_ireturn dX1_second_12 rfl rfl ?_
  refine mh_cl hΦ ?_
  unfold mhSec
  rw [show (2 : Int32) = nI 2 from rfl, pk_mul, nI_add, pk_mul, nI_1]
set_option maxHeartbeats 4000000 in
set_option maxRecDepth 100000 in
theorem sp_X1_placeSides {l : Launch} {K : mhX} {Φ : mhQ} {S : List mhS} {F : mhF} {I : mhI} {J : mhJ} {P : mhP} {a w h x y : Nat} (k1 : mhKX1 S a) (hw : F a 0 = nI w) (g : gOk w h) (hx : x < w) (hy : y < h) {T : mhI} (ht : tbl I a T) (hΦ : ∀ I2 : mhI, tbl I2 a (mhPs w x y T) → frT4 a I I2 → Φ none S F I2 J P) : mhOk l K mX1_placeSides [.ref a, .int (nI x), .int (nI y)] S F I J P Φ := by
  refine mhOk.of (by decide) (by decide) rfl (Nat.le_of_ble_eq_true rfl) ?_
  have gx := gXY g
  have c1 := gx.2.2.2 x y hx hy
  have gb := g.2.1
  have gh := g.2.2.2
  have t0 := ht
  refine mh_aload_0 dX1_placeSides_0 (q := 1) rfl ?_
  refine mh_getI fl_X1_55 dX1_placeSides_1 (q := 4) rfl (shX1_0 k1) rfl ?_
  rw [hw]
  refine mh_iload_2 dX1_placeSides_4 (q := 5) rfl ?_
  refine mh_imul dX1_placeSides_5 (q := 6) rfl ?_
  rw [pk_mul]
  refine mh_iload_1 dX1_placeSides_6 (q := 7) rfl ?_
  refine mh_iadd dX1_placeSides_7 (q := 8) rfl ?_
  rw [nI_add]
  refine mh_istore_3 dX1_placeSides_8 (q := 9) rfl ?_
  refine mh_aload_0 dX1_placeSides_9 (q := 10) rfl ?_
  refine mh_iconst_3 dX1_placeSides_10 (q := 11) rfl ?_
  refine mh_iload_3 dX1_placeSides_11 (q := 12) rfl ?_
  refine mh_imul dX1_placeSides_12 (q := 13) rfl ?_
  rw [show (3 : Int32) * nI (w * y + x) = nI (3 * (w * y + x)) from pk_mul 3 _]
  refine mh_iconst_2 dX1_placeSides_13 (q := 14) rfl ?_
  refine mh_iconst_2 dX1_placeSides_14 (q := 15) rfl ?_
  refine mh_iload_3 dX1_placeSides_15 (q := 16) rfl ?_
  refine mh_imul dX1_placeSides_16 (q := 17) rfl ?_
  rw [show (2 : Int32) * nI (w * y + x) = nI (2 * (w * y + x)) from pk_mul 2 _]
  refine mh_iconst_2 dX1_placeSides_17 (q := 18) rfl ?_
  refine mh_iload_3 dX1_placeSides_18 (q := 19) rfl ?_
  refine mh_imul dX1_placeSides_19 (q := 20) rfl ?_
  rw [show (2 : Int32) * nI (w * y + x) = nI (2 * (w * y + x)) from pk_mul 2 _]
  refine mh_iconst_1 dX1_placeSides_20 (q := 21) rfl ?_
  refine mh_iadd dX1_placeSides_21 (q := 22) rfl ?_
  rw [nI_1]
  refine mh_callV4 ca_X1_placeSides_22 (shX1_0 k1) (q := 25) rfl (by simp [Value.category]) ⟨Nat.zero_le _, Nat.zero_le _⟩ ?_
  refine sp_X1_place k1 t0 (vp_in_nI (by omega) (by decide)) (Or.inr (by rw [show (3 : Int32) = nI 3 from rfl, pk_mul, show (2 : Int32) = nI 2 from rfl, nI_add]; exact vp_in_nI (by omega) (by decide))) (Or.inr (by (try unfold mhSec); rw [show (3 : Int32) = nI 3 from rfl, pk_mul, show (2 : Int32) = nI 2 from rfl, nI_add]; exact vp_in_nI (by omega) (by decide))) (fun I1 t1 f1 => ?_)
  refine mh_aload_0 dX1_placeSides_25 (q := 26) rfl ?_
  refine mh_iconst_3 dX1_placeSides_26 (q := 27) rfl ?_
  refine mh_iload_3 dX1_placeSides_27 (q := 28) rfl ?_
  refine mh_imul dX1_placeSides_28 (q := 29) rfl ?_
  rw [show (3 : Int32) * nI (w * y + x) = nI (3 * (w * y + x)) from pk_mul 3 _]
  refine mh_iconst_1 dX1_placeSides_29 (q := 30) rfl ?_
  refine mh_iadd dX1_placeSides_30 (q := 31) rfl ?_
  rw [nI_1]
  refine mh_iconst_1 dX1_placeSides_31 (q := 32) rfl ?_
  refine mh_iconst_2 dX1_placeSides_32 (q := 33) rfl ?_
  refine mh_iload_3 dX1_placeSides_33 (q := 34) rfl ?_
  refine mh_imul dX1_placeSides_34 (q := 35) rfl ?_
  rw [show (2 : Int32) * nI (w * y + x) = nI (2 * (w * y + x)) from pk_mul 2 _]
  refine mh_iload_1 dX1_placeSides_35 (q := 36) rfl ?_
  refine mh_if_ne dX1_placeSides_36 (tgt := 44) (q := 39) rfl rfl (fun c36 => ?_) (fun c36 => ?_)
  · skip
    rw [show (0 : Int32) = nI 0 from rfl, nI_eq (by omega) (by decide)] at c36
    refine mh_aload_0 dX1_placeSides_44 (q := 45) rfl ?_
    refine mh_iload_1 dX1_placeSides_45 (q := 46) rfl ?_
    refine mh_iconst_1 dX1_placeSides_46 (q := 47) rfl ?_
    refine mh_isub dX1_placeSides_47 (q := 48) rfl ?_
    rw [show nI x - 1 = nI (x - 1) from pk_sub (b := 1) (by omega)]
    refine mh_iload_2 dX1_placeSides_48 (q := 49) rfl ?_
    refine mh_callV2 ca_X1_placeSides_49 (shX1_0 k1) (q := 52) rfl (by simp [Value.category]) ⟨Nat.zero_le _, Nat.zero_le _⟩ ?_
    refine sp_X1_second (w := w) k1 hw ?_
    have c2 := gx.2.2.2 (x - 1) y (by omega) hy
    refine mh_callV4 ca_X1_placeSides_52 (shX1_0 k1) (q := 55) rfl (by simp [Value.category]) ⟨Nat.zero_le _, Nat.zero_le _⟩ ?_
    first | refine sp_X1_place k1 t1 (vp_in_nI (by omega) (by decide)) (Or.inr (by rw [show (3 : Int32) = nI 3 from rfl, pk_mul, show (1 : Int32) = nI 1 from rfl, nI_add]; exact vp_in_nI (by omega) (by decide))) (Or.inl rfl) (fun I2 t2 f2 => ?_) | refine sp_X1_place k1 t1 (vp_in_nI (by omega) (by decide)) (Or.inr (by rw [show (3 : Int32) = nI 3 from rfl, pk_mul, show (1 : Int32) = nI 1 from rfl, nI_add]; exact vp_in_nI (by omega) (by decide))) (Or.inr (by (try unfold mhSec); rw [show (3 : Int32) = nI 3 from rfl, pk_mul, show (1 : Int32) = nI 1 from rfl, nI_add]; exact vp_in_nI (by omega) (by decide))) (fun I2 t2 f2 => ?_)
    refine mh_aload_0 dX1_placeSides_55 (q := 56) rfl ?_
    refine mh_iconst_3 dX1_placeSides_56 (q := 57) rfl ?_
    refine mh_iload_3 dX1_placeSides_57 (q := 58) rfl ?_
    refine mh_imul dX1_placeSides_58 (q := 59) rfl ?_
    rw [show (3 : Int32) * nI (w * y + x) = nI (3 * (w * y + x)) from pk_mul 3 _]
    refine mh_iconst_2 dX1_placeSides_59 (q := 60) rfl ?_
    refine mh_iadd dX1_placeSides_60 (q := 61) rfl ?_
    rw [show nI (3 * (w * y + x)) + 2 = nI (3 * (w * y + x) + 2) from nI_add _ 2]
    refine mh_iconst_0 dX1_placeSides_61 (q := 62) rfl ?_
    refine mh_iconst_2 dX1_placeSides_62 (q := 63) rfl ?_
    refine mh_iload_3 dX1_placeSides_63 (q := 64) rfl ?_
    refine mh_imul dX1_placeSides_64 (q := 65) rfl ?_
    rw [show (2 : Int32) * nI (w * y + x) = nI (2 * (w * y + x)) from pk_mul 2 _]
    refine mh_iload_2 dX1_placeSides_65 (q := 66) rfl ?_
    refine mh_if_ne dX1_placeSides_66 (tgt := 74) (q := 69) rfl rfl (fun c66 => ?_) (fun c66 => ?_)
    · skip
      rw [show (0 : Int32) = nI 0 from rfl, nI_eq (by omega) (by decide)] at c66
      refine mh_aload_0 dX1_placeSides_74 (q := 75) rfl ?_
      refine mh_iload_1 dX1_placeSides_75 (q := 76) rfl ?_
      refine mh_iload_2 dX1_placeSides_76 (q := 77) rfl ?_
      refine mh_iconst_1 dX1_placeSides_77 (q := 78) rfl ?_
      refine mh_isub dX1_placeSides_78 (q := 79) rfl ?_
      rw [show nI y - 1 = nI (y - 1) from pk_sub (b := 1) (by omega)]
      refine mh_callV2 ca_X1_placeSides_79 (shX1_0 k1) (q := 82) rfl (by simp [Value.category]) ⟨Nat.zero_le _, Nat.zero_le _⟩ ?_
      refine sp_X1_second (w := w) k1 hw ?_
      have c3 := gx.2.2.2 x (y - 1) hx (by omega)
      refine mh_callV4 ca_X1_placeSides_82 (shX1_0 k1) (q := 85) rfl (by simp [Value.category]) ⟨Nat.zero_le _, Nat.zero_le _⟩ ?_
      first | refine sp_X1_place k1 t2 (vp_in_nI (by omega) (by decide)) (Or.inr (by rw [show (3 : Int32) = nI 3 from rfl, pk_mul, show (0 : Int32) = nI 0 from rfl, nI_add]; exact vp_in_nI (by omega) (by decide))) (Or.inl rfl) (fun I3 t3 f3 => ?_) | refine sp_X1_place k1 t2 (vp_in_nI (by omega) (by decide)) (Or.inr (by rw [show (3 : Int32) = nI 3 from rfl, pk_mul, show (0 : Int32) = nI 0 from rfl, nI_add]; exact vp_in_nI (by omega) (by decide))) (Or.inr (by (try unfold mhSec); rw [show (3 : Int32) = nI 3 from rfl, pk_mul, show (0 : Int32) = nI 0 from rfl, nI_add]; exact vp_in_nI (by omega) (by decide))) (fun I3 t3 f3 => ?_)
      refine mh_return dX1_placeSides_85 rfl ?_
      refine hΦ I3 ?_ (f1.tr (f2.tr f3))
      unfold mhPs
      rw [if_neg c36, if_neg c66]
      exact t3
    · skip
      rw [show (0 : Int32) = nI 0 from rfl, nI_eq (by omega) (by decide)] at c66
      refine mh_bipush (v := (-9)) dX1_placeSides_69 (q := 71) rfl (by decide) ?_
      refine mh_goto dX1_placeSides_71 (tgt := 82) rfl ?_
      refine mh_callV4 ca_X1_placeSides_82 (shX1_0 k1) (q := 85) rfl (by simp [Value.category]) ⟨Nat.zero_le _, Nat.zero_le _⟩ ?_
      first | refine sp_X1_place k1 t2 (vp_in_nI (by omega) (by decide)) (Or.inr (by rw [show (3 : Int32) = nI 3 from rfl, pk_mul, show (0 : Int32) = nI 0 from rfl, nI_add]; exact vp_in_nI (by omega) (by decide))) (Or.inl rfl) (fun I3 t3 f3 => ?_) | refine sp_X1_place k1 t2 (vp_in_nI (by omega) (by decide)) (Or.inr (by rw [show (3 : Int32) = nI 3 from rfl, pk_mul, show (0 : Int32) = nI 0 from rfl, nI_add]; exact vp_in_nI (by omega) (by decide))) (Or.inr (by (try unfold mhSec); rw [show (3 : Int32) = nI 3 from rfl, pk_mul, show (0 : Int32) = nI 0 from rfl, nI_add]; exact vp_in_nI (by omega) (by decide))) (fun I3 t3 f3 => ?_)
      refine mh_return dX1_placeSides_85 rfl ?_
      refine hΦ I3 ?_ (f1.tr (f2.tr f3))
      unfold mhPs
      rw [if_neg c36, if_pos c66]
      exact t3
  · skip
    rw [show (0 : Int32) = nI 0 from rfl, nI_eq (by omega) (by decide)] at c36
    refine mh_bipush (v := (-9)) dX1_placeSides_39 (q := 41) rfl (by decide) ?_
    refine mh_goto dX1_placeSides_41 (tgt := 52) rfl ?_
    refine mh_callV4 ca_X1_placeSides_52 (shX1_0 k1) (q := 55) rfl (by simp [Value.category]) ⟨Nat.zero_le _, Nat.zero_le _⟩ ?_
    first | refine sp_X1_place k1 t1 (vp_in_nI (by omega) (by decide)) (Or.inr (by rw [show (3 : Int32) = nI 3 from rfl, pk_mul, show (1 : Int32) = nI 1 from rfl, nI_add]; exact vp_in_nI (by omega) (by decide))) (Or.inl rfl) (fun I2 t2 f2 => ?_) | refine sp_X1_place k1 t1 (vp_in_nI (by omega) (by decide)) (Or.inr (by rw [show (3 : Int32) = nI 3 from rfl, pk_mul, show (1 : Int32) = nI 1 from rfl, nI_add]; exact vp_in_nI (by omega) (by decide))) (Or.inr (by (try unfold mhSec); rw [show (3 : Int32) = nI 3 from rfl, pk_mul, show (1 : Int32) = nI 1 from rfl, nI_add]; exact vp_in_nI (by omega) (by decide))) (fun I2 t2 f2 => ?_)
    refine mh_aload_0 dX1_placeSides_55 (q := 56) rfl ?_
    refine mh_iconst_3 dX1_placeSides_56 (q := 57) rfl ?_
    refine mh_iload_3 dX1_placeSides_57 (q := 58) rfl ?_
    refine mh_imul dX1_placeSides_58 (q := 59) rfl ?_
    rw [show (3 : Int32) * nI (w * y + x) = nI (3 * (w * y + x)) from pk_mul 3 _]
    refine mh_iconst_2 dX1_placeSides_59 (q := 60) rfl ?_
    refine mh_iadd dX1_placeSides_60 (q := 61) rfl ?_
    rw [show nI (3 * (w * y + x)) + 2 = nI (3 * (w * y + x) + 2) from nI_add _ 2]
    refine mh_iconst_0 dX1_placeSides_61 (q := 62) rfl ?_
    refine mh_iconst_2 dX1_placeSides_62 (q := 63) rfl ?_
    refine mh_iload_3 dX1_placeSides_63 (q := 64) rfl ?_
    refine mh_imul dX1_placeSides_64 (q := 65) rfl ?_
    rw [show (2 : Int32) * nI (w * y + x) = nI (2 * (w * y + x)) from pk_mul 2 _]
    refine mh_iload_2 dX1_placeSides_65 (q := 66) rfl ?_
    refine mh_if_ne dX1_placeSides_66 (tgt := 74) (q := 69) rfl rfl (fun c66 => ?_) (fun c66 => ?_)
    · skip
      rw [show (0 : Int32) = nI 0 from rfl, nI_eq (by omega) (by decide)] at c66
      refine mh_aload_0 dX1_placeSides_74 (q := 75) rfl ?_
      refine mh_iload_1 dX1_placeSides_75 (q := 76) rfl ?_
      refine mh_iload_2 dX1_placeSides_76 (q := 77) rfl ?_
      refine mh_iconst_1 dX1_placeSides_77 (q := 78) rfl ?_
      refine mh_isub dX1_placeSides_78 (q := 79) rfl ?_
      rw [show nI y - 1 = nI (y - 1) from pk_sub (b := 1) (by omega)]
      refine mh_callV2 ca_X1_placeSides_79 (shX1_0 k1) (q := 82) rfl (by simp [Value.category]) ⟨Nat.zero_le _, Nat.zero_le _⟩ ?_
      refine sp_X1_second (w := w) k1 hw ?_
      have c3 := gx.2.2.2 x (y - 1) hx (by omega)
      refine mh_callV4 ca_X1_placeSides_82 (shX1_0 k1) (q := 85) rfl (by simp [Value.category]) ⟨Nat.zero_le _, Nat.zero_le _⟩ ?_
      first | refine sp_X1_place k1 t2 (vp_in_nI (by omega) (by decide)) (Or.inr (by rw [show (3 : Int32) = nI 3 from rfl, pk_mul, show (0 : Int32) = nI 0 from rfl, nI_add]; exact vp_in_nI (by omega) (by decide))) (Or.inl rfl) (fun I3 t3 f3 => ?_) | refine sp_X1_place k1 t2 (vp_in_nI (by omega) (by decide)) (Or.inr (by rw [show (3 : Int32) = nI 3 from rfl, pk_mul, show (0 : Int32) = nI 0 from rfl, nI_add]; exact vp_in_nI (by omega) (by decide))) (Or.inr (by (try unfold mhSec); rw [show (3 : Int32) = nI 3 from rfl, pk_mul, show (0 : Int32) = nI 0 from rfl, nI_add]; exact vp_in_nI (by omega) (by decide))) (fun I3 t3 f3 => ?_)
      refine mh_return dX1_placeSides_85 rfl ?_
      refine hΦ I3 ?_ (f1.tr (f2.tr f3))
      unfold mhPs
      rw [if_pos c36, if_neg c66]
      exact t3
    · skip
      rw [show (0 : Int32) = nI 0 from rfl, nI_eq (by omega) (by decide)] at c66
      refine mh_bipush (v := (-9)) dX1_placeSides_69 (q := 71) rfl (by decide) ?_
      refine mh_goto dX1_placeSides_71 (tgt := 82) rfl ?_
      refine mh_callV4 ca_X1_placeSides_82 (shX1_0 k1) (q := 85) rfl (by simp [Value.category]) ⟨Nat.zero_le _, Nat.zero_le _⟩ ?_
      first | refine sp_X1_place k1 t2 (vp_in_nI (by omega) (by decide)) (Or.inr (by rw [show (3 : Int32) = nI 3 from rfl, pk_mul, show (0 : Int32) = nI 0 from rfl, nI_add]; exact vp_in_nI (by omega) (by decide))) (Or.inl rfl) (fun I3 t3 f3 => ?_) | refine sp_X1_place k1 t2 (vp_in_nI (by omega) (by decide)) (Or.inr (by rw [show (3 : Int32) = nI 3 from rfl, pk_mul, show (0 : Int32) = nI 0 from rfl, nI_add]; exact vp_in_nI (by omega) (by decide))) (Or.inr (by (try unfold mhSec); rw [show (3 : Int32) = nI 3 from rfl, pk_mul, show (0 : Int32) = nI 0 from rfl, nI_add]; exact vp_in_nI (by omega) (by decide))) (fun I3 t3 f3 => ?_)
      refine mh_return dX1_placeSides_85 rfl ?_
      refine hΦ I3 ?_ (f1.tr (f2.tr f3))
      unfold mhPs
      rw [if_pos c36, if_pos c66]
      exact t3
set_option maxHeartbeats 4000000 in
set_option maxRecDepth 100000 in
theorem sp_X6_sidesOf {l : Launch} {K : mhX} {Φ : mhQ} {S : List mhS} {F : mhF} {I : mhI} {J : mhJ} {P : mhP} {w h : Nat} (hΦ : Φ (some (.int (nI (gSides w h)))) S F I J P) : mhOk l K mX6_sidesOf [.int (nI w), .int (nI h)] S F I J P Φ := by
  refine mhOk.of (by decide) (by decide) rfl (Nat.le_of_ble_eq_true rfl) ?_
  refine mh_iconst_3 dX6_sidesOf_0 (q := 1) rfl ?_
  refine mh_iload_0 dX6_sidesOf_1 (q := 2) rfl ?_
  refine mh_imul dX6_sidesOf_2 (q := 3) rfl ?_
  refine mh_iload_1 dX6_sidesOf_3 (q := 4) rfl ?_
  refine mh_imul dX6_sidesOf_4 (q := 5) rfl ?_
  refine mh_iload_0 dX6_sidesOf_5 (q := 6) rfl ?_
  refine mh_iadd dX6_sidesOf_6 (q := 7) rfl ?_
  refine mh_iload_1 dX6_sidesOf_7 (q := 8) rfl ?_
  refine mh_iadd dX6_sidesOf_8 (q := 9) rfl ?_
  refine mh_ireturn dX6_sidesOf_9 rfl rfl ?_
  refine mh_cl hΦ ?_
  rw [show (3 : Int32) = nI 3 from rfl, pk_mul, pk_mul, nI_add, nI_add]
  rfl
set_option maxHeartbeats 4000000 in
set_option maxRecDepth 100000 in
theorem lp_X1_initX {l : Launch} {K : mhX} {kc ks : Nat} {Φ : mhQ} {S : List mhS} {F : mhF} {J : mhJ} {P : mhP} {a w h : Nat} (k1 : mhKX1 S a) (hw : F a 0 = nI w) (g : gOk w h) {y : Nat} (hy : y < h) {T : mhI} : ∀ (m x : Nat) (I : mhI), x + m = w → tbl I a (mhTx w y x T) → (∀ I2 : mhI, tbl I2 a (mhTx w y w T) → frT4 a I I2 → mhV l K mX1_init kc ks Φ 187 [some (.ref a), some (.int (nI w)), some (.int (nI h)), some (.int (nI y)), some (.int (nI w))] [] S F I2 J P) → mhV l K mX1_init kc ks Φ 168 [some (.ref a), some (.int (nI w)), some (.int (nI h)), some (.int (nI y)), some (.int (nI x))] [] S F I J P := by
  have gx := gXY g
  have gb := g.2.1
  have gh := g.2.2.2
  intro m
  induction m with
  | zero =>
    intro x I hx ht hΦ
    obtain rfl : x = w := by omega
    refine mh_iload_4 dX1_init_168 (q := 170) rfl ?_
    refine mh_iload_1 dX1_init_170 (q := 171) rfl ?_
    refine mh_icmp_ge dX1_init_171 (tgt := 187) (q := 174) rfl rfl (fun _ => ?_) (fun hh => absurd (nI_le (Nat.le_refl _) (by omega)) hh)
    exact hΦ I ht frT4.rf
  | succ m ih =>
    intro x I hx ht hΦ
    refine mh_iload_4 dX1_init_168 (q := 170) rfl ?_
    refine mh_iload_1 dX1_init_170 (q := 171) rfl ?_
    refine mh_icmp_ge dX1_init_171 (tgt := 187) (q := 174) rfl rfl (fun hh => absurd hh (nI_ge (by omega) (by omega))) (fun _ => ?_)
    refine mh_aload_0 dX1_init_174 (q := 175) rfl ?_
    refine mh_iload_4 dX1_init_175 (q := 177) rfl ?_
    refine mh_iload_3 dX1_init_177 (q := 178) rfl ?_
    refine mh_callV2 ca_X1_init_178 (shX1_0 k1) (q := 181) rfl (by simp [Value.category]) ⟨Nat.zero_le _, Nat.zero_le _⟩ ?_
    refine sp_X1_placeSides k1 hw g (by omega) hy ht (fun I2 t2 f2 => ?_)
    refine mh_iinc_4 (v := 1) dX1_init_181 (q := 184) rfl (by decide) ?_
    refine mh_goto dX1_init_184 (tgt := 168) rfl ?_
    rw [nI_1]
    exact ih (x + 1) I2 (by omega) t2 (fun I3 t3 f3 => hΦ I3 t3 (f2.tr f3))
set_option maxHeartbeats 4000000 in
set_option maxRecDepth 100000 in
theorem lp_X1_initY {l : Launch} {K : mhX} {kc ks : Nat} {Φ : mhQ} {S : List mhS} {F : mhF} {J : mhJ} {P : mhP} {a w h : Nat} (k1 : mhKX1 S a) (hw : F a 0 = nI w) (g : gOk w h) : ∀ (m y : Nat) (I : mhI) (o4 : Option Value), y + m = h → tbl I a (mhTy1 w y (fun _ _ => 0)) → (∀ (I2 : mhI) (o4 : Option Value), tbl I2 a (mhTy1 w h (fun _ _ => 0)) → frT4 a I I2 → mhV l K mX1_init kc ks Φ 193 [some (.ref a), some (.int (nI w)), some (.int (nI h)), some (.int (nI h)), o4] [] S F I2 J P) → mhV l K mX1_init kc ks Φ 160 [some (.ref a), some (.int (nI w)), some (.int (nI h)), some (.int (nI y)), o4] [] S F I J P := by
  have gx := gXY g
  have gb := g.2.1
  have gh := g.2.2.2
  intro m
  induction m with
  | zero =>
    intro y I o4 hy ht hΦ
    obtain rfl : y = h := by omega
    refine mh_iload_3 dX1_init_160 (q := 161) rfl ?_
    refine mh_iload_2 dX1_init_161 (q := 162) rfl ?_
    refine mh_icmp_ge dX1_init_162 (tgt := 193) (q := 165) rfl rfl (fun _ => ?_) (fun hh => absurd (nI_le (Nat.le_refl _) (by omega)) hh)
    exact hΦ I _ ht frT4.rf
  | succ m ih =>
    intro y I o4 hy ht hΦ
    refine mh_iload_3 dX1_init_160 (q := 161) rfl ?_
    refine mh_iload_2 dX1_init_161 (q := 162) rfl ?_
    refine mh_icmp_ge dX1_init_162 (tgt := 193) (q := 165) rfl rfl (fun hh => absurd hh (nI_ge (by omega) (by omega))) (fun _ => ?_)
    refine mh_iconst_0 dX1_init_165 (q := 166) rfl ?_
    refine mh_istore_4 dX1_init_166 (q := 168) rfl ?_
    refine lp_X1_initX k1 hw g (by omega) w 0 I (Nat.zero_add _) ht (fun I2 t2 f2 => ?_)
    refine mh_iinc_3 (v := 1) dX1_init_187 (q := 190) rfl (by decide) ?_
    refine mh_goto dX1_init_190 (tgt := 160) rfl ?_
    rw [nI_1]
    exact ih (y + 1) I2 _ (by omega) t2 (fun I3 o4 t3 f3 => hΦ I3 o4 t3 (f2.tr f3))
set_option maxHeartbeats 4000000 in
set_option maxRecDepth 100000 in
theorem lp_X1_initB {l : Launch} {K : mhX} {kc ks : Nat} {Φ : mhQ} {S : List mhS} {F : mhF} {J : mhJ} {P : mhP} {a w h : Nat} (k1 : mhKX1 S a) (hw : F a 0 = nI w) (g : gOk w h) {o4 : Option Value} : ∀ (m y : Nat) (I : mhI), y + m = h → tbl I a (mhTb w h y (mhTy1 w h (fun _ _ => 0))) → (∀ I2 : mhI, tbl I2 a (mhTb w h h (mhTy1 w h (fun _ _ => 0))) → frT4 a I I2 → mhV l K mX1_init kc ks Φ 228 [some (.ref a), some (.int (nI w)), some (.int (nI h)), some (.int (nI h)), o4] [] S F I2 J P) → mhV l K mX1_init kc ks Φ 195 [some (.ref a), some (.int (nI w)), some (.int (nI h)), some (.int (nI y)), o4] [] S F I J P := by
  have gx := gXY g
  have gb := g.2.1
  have gh := g.2.2.2
  intro m
  induction m with
  | zero =>
    intro y I hy ht hΦ
    obtain rfl : y = h := by omega
    refine mh_iload_3 dX1_init_195 (q := 196) rfl ?_
    refine mh_iload_2 dX1_init_196 (q := 197) rfl ?_
    refine mh_icmp_ge dX1_init_197 (tgt := 228) (q := 200) rfl rfl (fun _ => ?_) (fun hh => absurd (nI_le (Nat.le_refl _) (by omega)) hh)
    exact hΦ I ht frT4.rf
  | succ m ih =>
    intro y I hy ht hΦ
    have c1 := gx.2.2.2 (w - 1) y (by have := g.1; omega) (by omega)
    refine mh_iload_3 dX1_init_195 (q := 196) rfl ?_
    refine mh_iload_2 dX1_init_196 (q := 197) rfl ?_
    refine mh_icmp_ge dX1_init_197 (tgt := 228) (q := 200) rfl rfl (fun hh => absurd hh (nI_ge (by omega) (by omega))) (fun _ => ?_)
    refine mh_aload_0 dX1_init_200 (q := 201) rfl ?_
    refine mh_iconst_3 dX1_init_201 (q := 202) rfl ?_
    refine mh_iload_1 dX1_init_202 (q := 203) rfl ?_
    refine mh_imul dX1_init_203 (q := 204) rfl ?_
    rw [show (3 : Int32) * nI w = nI (3 * w) from pk_mul 3 _]
    refine mh_iload_2 dX1_init_204 (q := 205) rfl ?_
    refine mh_imul dX1_init_205 (q := 206) rfl ?_
    rw [pk_mul]
    refine mh_iload_3 dX1_init_206 (q := 207) rfl ?_
    refine mh_iadd dX1_init_207 (q := 208) rfl ?_
    rw [nI_add]
    refine mh_iconst_1 dX1_init_208 (q := 209) rfl ?_
    refine mh_bipush (v := (-9)) dX1_init_209 (q := 211) rfl (by decide) ?_
    refine mh_aload_0 dX1_init_211 (q := 212) rfl ?_
    refine mh_iload_1 dX1_init_212 (q := 213) rfl ?_
    refine mh_iconst_1 dX1_init_213 (q := 214) rfl ?_
    refine mh_isub dX1_init_214 (q := 215) rfl ?_
    rw [show nI w - 1 = nI (w - 1) from pk_sub (b := 1) g.1]
    refine mh_iload_3 dX1_init_215 (q := 216) rfl ?_
    refine mh_callV2 ca_X1_init_216 (shX1_0 k1) (q := 219) rfl (by simp [Value.category]) ⟨Nat.zero_le _, Nat.zero_le _⟩ ?_
    refine sp_X1_second (w := w) k1 hw ?_
    refine mh_callV4 ca_X1_init_219 (shX1_0 k1) (q := 222) rfl (by simp [Value.category]) ⟨Nat.zero_le _, Nat.zero_le _⟩ ?_
    refine sp_X1_place k1 ht (vp_in_nI (by omega) (by decide)) (Or.inl rfl) (Or.inr (by (try unfold mhSec); rw [show (3 : Int32) = nI 3 from rfl, pk_mul, show (1 : Int32) = nI 1 from rfl, nI_add]; exact vp_in_nI (by omega) (by decide))) (fun I2 t2 f2 => ?_)
    refine mh_iinc_3 (v := 1) dX1_init_222 (q := 225) rfl (by decide) ?_
    refine mh_goto dX1_init_225 (tgt := 195) rfl ?_
    rw [nI_1]
    exact ih (y + 1) I2 (by omega) t2 (fun I3 t3 f3 => hΦ I3 t3 (f2.tr f3))
set_option maxHeartbeats 4000000 in
set_option maxRecDepth 100000 in
theorem lp_X1_initC {l : Launch} {K : mhX} {kc ks : Nat} {Φ : mhQ} {S : List mhS} {F : mhF} {J : mhJ} {P : mhP} {a w h : Nat} (k1 : mhKX1 S a) (hw : F a 0 = nI w) (g : gOk w h) {o4 : Option Value} : ∀ (m x : Nat) (I : mhI), x + m = w → tbl I a (mhTc w h x (mhTb w h h (mhTy1 w h (fun _ _ => 0)))) → (∀ I2 : mhI, tbl I2 a (mhTab w h) → frT4 a I I2 → Φ none S F I2 J P) → mhV l K mX1_init kc ks Φ 230 [some (.ref a), some (.int (nI w)), some (.int (nI h)), some (.int (nI x)), o4] [] S F I J P := by
  have gx := gXY g
  have gb := g.2.1
  have gh := g.2.2.2
  intro m
  induction m with
  | zero =>
    intro x I hx ht hΦ
    obtain rfl : x = w := by omega
    refine mh_iload_3 dX1_init_230 (q := 231) rfl ?_
    refine mh_iload_1 dX1_init_231 (q := 232) rfl ?_
    refine mh_icmp_ge dX1_init_232 (tgt := 265) (q := 235) rfl rfl (fun _ => ?_) (fun hh => absurd (nI_le (Nat.le_refl _) (by omega)) hh)
    refine mh_return dX1_init_265 rfl ?_
    exact hΦ I ht frT4.rf
  | succ m ih =>
    intro x I hx ht hΦ
    have c1 := gx.2.2.2 x (h - 1) (by omega) (by have := g.2.2.1; omega)
    refine mh_iload_3 dX1_init_230 (q := 231) rfl ?_
    refine mh_iload_1 dX1_init_231 (q := 232) rfl ?_
    refine mh_icmp_ge dX1_init_232 (tgt := 265) (q := 235) rfl rfl (fun hh => absurd hh (nI_ge (by omega) (by omega))) (fun _ => ?_)
    refine mh_aload_0 dX1_init_235 (q := 236) rfl ?_
    refine mh_iconst_3 dX1_init_236 (q := 237) rfl ?_
    refine mh_iload_1 dX1_init_237 (q := 238) rfl ?_
    refine mh_imul dX1_init_238 (q := 239) rfl ?_
    rw [show (3 : Int32) * nI w = nI (3 * w) from pk_mul 3 _]
    refine mh_iload_2 dX1_init_239 (q := 240) rfl ?_
    refine mh_imul dX1_init_240 (q := 241) rfl ?_
    rw [pk_mul]
    refine mh_iload_2 dX1_init_241 (q := 242) rfl ?_
    refine mh_iadd dX1_init_242 (q := 243) rfl ?_
    rw [nI_add]
    refine mh_iload_3 dX1_init_243 (q := 244) rfl ?_
    refine mh_iadd dX1_init_244 (q := 245) rfl ?_
    rw [nI_add]
    refine mh_iconst_0 dX1_init_245 (q := 246) rfl ?_
    refine mh_bipush (v := (-9)) dX1_init_246 (q := 248) rfl (by decide) ?_
    refine mh_aload_0 dX1_init_248 (q := 249) rfl ?_
    refine mh_iload_3 dX1_init_249 (q := 250) rfl ?_
    refine mh_iload_2 dX1_init_250 (q := 251) rfl ?_
    refine mh_iconst_1 dX1_init_251 (q := 252) rfl ?_
    refine mh_isub dX1_init_252 (q := 253) rfl ?_
    rw [show nI h - 1 = nI (h - 1) from pk_sub (b := 1) g.2.2.1]
    refine mh_callV2 ca_X1_init_253 (shX1_0 k1) (q := 256) rfl (by simp [Value.category]) ⟨Nat.zero_le _, Nat.zero_le _⟩ ?_
    refine sp_X1_second (w := w) k1 hw ?_
    refine mh_callV4 ca_X1_init_256 (shX1_0 k1) (q := 259) rfl (by simp [Value.category]) ⟨Nat.zero_le _, Nat.zero_le _⟩ ?_
    refine sp_X1_place k1 ht (vp_in_nI (by omega) (by decide)) (Or.inl rfl) (Or.inr (by (try unfold mhSec); rw [show (3 : Int32) = nI 3 from rfl, pk_mul, show (0 : Int32) = nI 0 from rfl, nI_add]; exact vp_in_nI (by omega) (by decide))) (fun I2 t2 f2 => ?_)
    refine mh_iinc_3 (v := 1) dX1_init_259 (q := 262) rfl (by decide) ?_
    refine mh_goto dX1_init_262 (tgt := 230) rfl ?_
    rw [nI_1]
    exact ih (x + 1) I2 (by omega) t2 (fun I3 t3 f3 => hΦ I3 t3 (f2.tr f3))
set_option maxHeartbeats 4000000 in
set_option maxRecDepth 100000 in
theorem sp_X1_init {l : Launch} {K : mhX} {Φ : mhQ} {S : List mhS} {F : mhF} {I : mhI} {J : mhJ} {P : mhP} {L : List mhS} {b w h : Nat} (hb : L.length = b) (hb52 : 21 ≤ b) (hS : S = L ++ [.inr (1, [none, none, none, none, some none, some none, some none, some none, some none, none, none, none, none, some none, some none, some none, some none, some none])]) (g : gOk w h) (hΦ : ∀ (S2 : List mhS) (F2 : mhF) (I2 : mhI), S2.length = b + 11 → (∀ i, i < b → S2[i]? = L[i]?) → mhHs S2 F2 I2 b w h → (∀ c k, c ≠ b → F2 c k = F c k) → (∀ c y, c < b + 1 → I2 c y = I c y) → (∀ y, I2 (b + 1) y = 0 ∧ I2 (b + 2) y = 0) → Φ none S2 F2 I2 J P) : mhOk l K mX1_init [.ref b, .int (nI w), .int (nI h)] S F I J P Φ := by
  refine mhOk.of (by decide) (by decide) rfl (Nat.le_of_ble_eq_true rfl) ?_
  subst hS
  refine mh_aload_0 dX1_init_0 (q := 1) rfl ?_
  refine mh_objInit dX1_init_1 wd_206 wd_objI wd_objC (by decide) (by decide) (by simp [Value.category]) (q := 4) rfl ?_
  refine mh_aload_0 dX1_init_4 (q := 5) rfl ?_
  refine mh_bipush (v := 43) dX1_init_5 (q := 7) rfl (by decide) ?_
  refine mh_newI (N := 43) dX1_init_7 wd_80 (by decide) rfl (Nat.le_of_ble_eq_true rfl) (q := 9) rfl (by decide) ?_
  rw [nfL (n := 0) hb rfl, nfA (M' := [.inl (0, 43)]) rfl]
  refine mh_putR (Or.inr ⟨fw_X1_9, rfl⟩) (Or.inr ⟨_, rfl⟩) dX1_init_9 (q := 12) rfl (nfG hb) rfl ?_
  rw [nfS (y' := .inr (1, [none, none, none, none, some (some (b + (0 + 1))), some none, some none, some none, some none, none, none, none, none, some none, some none, some none, some none, some none])) hb (by rfl)]
  refine mh_aload_0 dX1_init_12 (q := 13) rfl ?_
  refine mh_bipush (v := 43) dX1_init_13 (q := 15) rfl (by decide) ?_
  refine mh_newI (N := 43) dX1_init_15 wd_80 (by decide) rfl (Nat.le_of_ble_eq_true rfl) (q := 17) rfl (by decide) ?_
  rw [nfL (n := 1) hb rfl, nfA (M' := [.inl (0, 43), .inl (0, 43)]) rfl]
  refine mh_putR (Or.inr ⟨fw_X1_15, rfl⟩) (Or.inr ⟨_, rfl⟩) dX1_init_17 (q := 20) rfl (nfG hb) rfl ?_
  rw [nfS (y' := .inr (1, [none, none, none, none, some (some (b + (0 + 1))), some (some (b + (1 + 1))), some none, some none, some none, none, none, none, none, some none, some none, some none, some none, some none])) hb (by rfl)]
  refine mh_aload_0 dX1_init_20 (q := 21) rfl ?_
  refine mh_bipush (v := 43) dX1_init_21 (q := 23) rfl (by decide) ?_
  refine mh_newI (N := 43) dX1_init_23 wd_80 (by decide) rfl (Nat.le_of_ble_eq_true rfl) (q := 25) rfl (by decide) ?_
  rw [nfL (n := 2) hb rfl, nfA (M' := [.inl (0, 43), .inl (0, 43), .inl (0, 43)]) rfl]
  refine mh_putR (Or.inr ⟨fw_X1_18, rfl⟩) (Or.inr ⟨_, rfl⟩) dX1_init_25 (q := 28) rfl (nfG hb) rfl ?_
  rw [nfS (y' := .inr (1, [none, none, none, none, some (some (b + (0 + 1))), some (some (b + (1 + 1))), some (some (b + (2 + 1))), some none, some none, none, none, none, none, some none, some none, some none, some none, some none])) hb (by rfl)]
  refine mh_aload_0 dX1_init_28 (q := 29) rfl ?_
  refine mh_bipush (v := 43) dX1_init_29 (q := 31) rfl (by decide) ?_
  refine mh_newI (N := 43) dX1_init_31 wd_80 (by decide) rfl (Nat.le_of_ble_eq_true rfl) (q := 33) rfl (by decide) ?_
  rw [nfL (n := 3) hb rfl, nfA (M' := [.inl (0, 43), .inl (0, 43), .inl (0, 43), .inl (0, 43)]) rfl]
  refine mh_putR (Or.inr ⟨fw_X1_21, rfl⟩) (Or.inr ⟨_, rfl⟩) dX1_init_33 (q := 36) rfl (nfG hb) rfl ?_
  rw [nfS (y' := .inr (1, [none, none, none, none, some (some (b + (0 + 1))), some (some (b + (1 + 1))), some (some (b + (2 + 1))), some (some (b + (3 + 1))), some none, none, none, none, none, some none, some none, some none, some none, some none])) hb (by rfl)]
  refine mh_aload_0 dX1_init_36 (q := 37) rfl ?_
  refine mh_bipush (v := 43) dX1_init_37 (q := 39) rfl (by decide) ?_
  refine mh_newI (N := 43) dX1_init_39 wd_80 (by decide) rfl (Nat.le_of_ble_eq_true rfl) (q := 41) rfl (by decide) ?_
  rw [nfL (n := 4) hb rfl, nfA (M' := [.inl (0, 43), .inl (0, 43), .inl (0, 43), .inl (0, 43), .inl (0, 43)]) rfl]
  refine mh_putR (Or.inr ⟨fw_X1_24, rfl⟩) (Or.inr ⟨_, rfl⟩) dX1_init_41 (q := 44) rfl (nfG hb) rfl ?_
  rw [nfS (y' := .inr (1, [none, none, none, none, some (some (b + (0 + 1))), some (some (b + (1 + 1))), some (some (b + (2 + 1))), some (some (b + (3 + 1))), some (some (b + (4 + 1))), none, none, none, none, some none, some none, some none, some none, some none])) hb (by rfl)]
  refine mh_aload_0 dX1_init_44 (q := 45) rfl ?_
  refine mh_bipush (v := (-9)) dX1_init_45 (q := 47) rfl (by decide) ?_
  refine mh_putI (Or.inl fw_X1_27) rfl rfl dX1_init_47 (q := 50) rfl (nfG hb) rfl ?_
  refine mh_aload_0 dX1_init_50 (q := 51) rfl ?_
  refine mh_bipush (v := (-9)) dX1_init_51 (q := 53) rfl (by decide) ?_
  refine mh_putI (Or.inl fw_X1_31) rfl rfl dX1_init_53 (q := 56) rfl (nfG hb) rfl ?_
  refine mh_aload_0 dX1_init_56 (q := 57) rfl ?_
  refine mh_bipush (v := (-9)) dX1_init_57 (q := 59) rfl (by decide) ?_
  refine mh_putI (Or.inl fw_X1_34) rfl rfl dX1_init_59 (q := 62) rfl (nfG hb) rfl ?_
  refine mh_aload_0 dX1_init_62 (q := 63) rfl ?_
  refine mh_bipush (v := (-9)) dX1_init_63 (q := 65) rfl (by decide) ?_
  refine mh_putI (Or.inl fw_X1_37) rfl rfl dX1_init_65 (q := 68) rfl (nfG hb) rfl ?_
  refine mh_aload_0 dX1_init_68 (q := 69) rfl ?_
  refine mh_bipush (v := 72) dX1_init_69 (q := 71) rfl (by decide) ?_
  refine mh_newI (N := 72) dX1_init_71 wd_80 (by decide) rfl (Nat.le_of_ble_eq_true rfl) (q := 73) rfl (by decide) ?_
  rw [nfL (n := 5) hb rfl, nfA (M' := [.inl (0, 43), .inl (0, 43), .inl (0, 43), .inl (0, 43), .inl (0, 43), .inl (0, 72)]) rfl]
  refine mh_putR (Or.inr ⟨fw_X1_40, rfl⟩) (Or.inr ⟨_, rfl⟩) dX1_init_73 (q := 76) rfl (nfG hb) rfl ?_
  rw [nfS (y' := .inr (1, [none, none, none, none, some (some (b + (0 + 1))), some (some (b + (1 + 1))), some (some (b + (2 + 1))), some (some (b + (3 + 1))), some (some (b + (4 + 1))), none, none, none, none, some (some (b + (5 + 1))), some none, some none, some none, some none])) hb (by rfl)]
  refine mh_aload_0 dX1_init_76 (q := 77) rfl ?_
  refine mh_bipush (v := 43) dX1_init_77 (q := 79) rfl (by decide) ?_
  refine mh_newI (N := 43) dX1_init_79 wd_80 (by decide) rfl (Nat.le_of_ble_eq_true rfl) (q := 81) rfl (by decide) ?_
  rw [nfL (n := 6) hb rfl, nfA (M' := [.inl (0, 43), .inl (0, 43), .inl (0, 43), .inl (0, 43), .inl (0, 43), .inl (0, 72), .inl (0, 43)]) rfl]
  refine mh_putR (Or.inr ⟨fw_X1_43, rfl⟩) (Or.inr ⟨_, rfl⟩) dX1_init_81 (q := 84) rfl (nfG hb) rfl ?_
  rw [nfS (y' := .inr (1, [none, none, none, none, some (some (b + (0 + 1))), some (some (b + (1 + 1))), some (some (b + (2 + 1))), some (some (b + (3 + 1))), some (some (b + (4 + 1))), none, none, none, none, some (some (b + (5 + 1))), some (some (b + (6 + 1))), some none, some none, some none])) hb (by rfl)]
  refine mh_aload_0 dX1_init_84 (q := 85) rfl ?_
  refine mh_iconst_4 dX1_init_85 (q := 86) rfl ?_
  refine mh_newI (N := 4) dX1_init_86 wd_80 (by decide) rfl (Nat.le_of_ble_eq_true rfl) (q := 88) rfl (by decide) ?_
  rw [nfL (n := 7) hb rfl, nfA (M' := [.inl (0, 43), .inl (0, 43), .inl (0, 43), .inl (0, 43), .inl (0, 43), .inl (0, 72), .inl (0, 43), .inl (0, 4)]) rfl]
  refine mh_putR (Or.inr ⟨fw_X1_46, rfl⟩) (Or.inr ⟨_, rfl⟩) dX1_init_88 (q := 91) rfl (nfG hb) rfl ?_
  rw [nfS (y' := .inr (1, [none, none, none, none, some (some (b + (0 + 1))), some (some (b + (1 + 1))), some (some (b + (2 + 1))), some (some (b + (3 + 1))), some (some (b + (4 + 1))), none, none, none, none, some (some (b + (5 + 1))), some (some (b + (6 + 1))), some (some (b + (7 + 1))), some none, some none])) hb (by rfl)]
  refine mh_aload_0 dX1_init_91 (q := 92) rfl ?_
  refine mh_iconst_4 dX1_init_92 (q := 93) rfl ?_
  refine mh_newI (N := 4) dX1_init_93 wd_80 (by decide) rfl (Nat.le_of_ble_eq_true rfl) (q := 95) rfl (by decide) ?_
  rw [nfL (n := 8) hb rfl, nfA (M' := [.inl (0, 43), .inl (0, 43), .inl (0, 43), .inl (0, 43), .inl (0, 43), .inl (0, 72), .inl (0, 43), .inl (0, 4), .inl (0, 4)]) rfl]
  refine mh_putR (Or.inr ⟨fw_X1_49, rfl⟩) (Or.inr ⟨_, rfl⟩) dX1_init_95 (q := 98) rfl (nfG hb) rfl ?_
  rw [nfS (y' := .inr (1, [none, none, none, none, some (some (b + (0 + 1))), some (some (b + (1 + 1))), some (some (b + (2 + 1))), some (some (b + (3 + 1))), some (some (b + (4 + 1))), none, none, none, none, some (some (b + (5 + 1))), some (some (b + (6 + 1))), some (some (b + (7 + 1))), some (some (b + (8 + 1))), some none])) hb (by rfl)]
  refine mh_aload_0 dX1_init_98 (q := 99) rfl ?_
  refine mh_iconst_3 dX1_init_99 (q := 100) rfl ?_
  refine mh_newI (N := 3) dX1_init_100 wd_80 (by decide) rfl (Nat.le_of_ble_eq_true rfl) (q := 102) rfl (by decide) ?_
  rw [nfL (n := 9) hb rfl, nfA (M' := [.inl (0, 43), .inl (0, 43), .inl (0, 43), .inl (0, 43), .inl (0, 43), .inl (0, 72), .inl (0, 43), .inl (0, 4), .inl (0, 4), .inl (0, 3)]) rfl]
  refine mh_putR (Or.inr ⟨fw_X1_52, rfl⟩) (Or.inr ⟨_, rfl⟩) dX1_init_102 (q := 105) rfl (nfG hb) rfl ?_
  rw [nfS (y' := .inr (1, [none, none, none, none, some (some (b + (0 + 1))), some (some (b + (1 + 1))), some (some (b + (2 + 1))), some (some (b + (3 + 1))), some (some (b + (4 + 1))), none, none, none, none, some (some (b + (5 + 1))), some (some (b + (6 + 1))), some (some (b + (7 + 1))), some (some (b + (8 + 1))), some (some (b + (9 + 1)))])) hb (by rfl)]
  obtain ⟨S2, hS2⟩ : ∃ z, z = L ++ .inr (1, [none, none, none, none, some (some (b + (0 + 1))), some (some (b + (1 + 1))), some (some (b + (2 + 1))), some (some (b + (3 + 1))), some (some (b + (4 + 1))), none, none, none, none, some (some (b + (5 + 1))), some (some (b + (6 + 1))), some (some (b + (7 + 1))), some (some (b + (8 + 1))), some (some (b + (9 + 1)))]) :: [.inl (0, 43), .inl (0, 43), .inl (0, 43), .inl (0, 43), .inl (0, 43), .inl (0, 72), .inl (0, 43), .inl (0, 4), .inl (0, 4), .inl (0, 3)] := ⟨_, rfl⟩
  have k1 : mhKX1 S2 b := by
    rw [hS2]
    exact ⟨nfG hb, nfI hb, nfI hb, nfI hb, nfI hb, nfI hb, nfI hb, nfI hb, nfI hb, nfI hb, nfI hb⟩
  have sl : S2.length = b + 11 := by rw [hS2]; exact nfL (n := 10) hb rfl
  have so : ∀ i, i < b → S2[i]? = L[i]? := fun i hi => by rw [hS2]; exact nfO hb hi
  rw [← hS2]
  obtain ⟨I1, hI1⟩ : ∃ z, z = mhZI (mhZI (mhZI (mhZI (mhZI (mhZI (mhZI (mhZI (mhZI (mhZI I (b + (0 + 1))) (b + (1 + 1))) (b + (2 + 1))) (b + (3 + 1))) (b + (4 + 1))) (b + (5 + 1))) (b + (6 + 1))) (b + (7 + 1))) (b + (8 + 1))) (b + (9 + 1)) := ⟨_, rfl⟩
  rw [← hI1]
  have io : ∀ c y, c < b + 1 → I1 c y = I c y := fun c y hc => by
    rw [hI1]
    repeat rw [mhZI, if_neg (by omega)]
  have iz : ∀ t y, 1 ≤ t → t < 11 → I1 (b + t) y = 0 := fun t y h1 h2 => by
    rw [hI1]
    rcases (show t = 1 ∨ t = 2 ∨ t = 3 ∨ t = 4 ∨ t = 5 ∨ t = 6 ∨ t = 7 ∨ t = 8 ∨ t = 9 ∨ t = 10 by omega) with rfl | rfl | rfl | rfl | rfl | rfl | rfl | rfl | rfl | rfl <;> (repeat (first | rw [mhZI, if_neg (by omega)] | exact if_pos rfl))
  have gx := gXY g
  have gb := g.2.1
  have gh := g.2.2.2
  refine mh_aload_0 dX1_init_105 (q := 106) rfl ?_
  refine mh_iload_1 dX1_init_106 (q := 107) rfl ?_
  refine mh_putI (Or.inr ⟨fw_X1_55, rfl⟩) rfl rfl dX1_init_107 (q := 110) rfl (shX1_0 k1) rfl ?_
  refine mh_aload_0 dX1_init_110 (q := 111) rfl ?_
  refine mh_iload_2 dX1_init_111 (q := 112) rfl ?_
  refine mh_putI (Or.inr ⟨fw_X1_58, rfl⟩) rfl rfl dX1_init_112 (q := 115) rfl (shX1_0 k1) rfl ?_
  refine mh_aload_0 dX1_init_115 (q := 116) rfl ?_
  refine mh_iconst_2 dX1_init_116 (q := 117) rfl ?_
  refine mh_iload_1 dX1_init_117 (q := 118) rfl ?_
  refine mh_imul dX1_init_118 (q := 119) rfl ?_
  rw [show (2 : Int32) * nI w = nI (2 * w) from pk_mul 2 _]
  refine mh_iload_2 dX1_init_119 (q := 120) rfl ?_
  refine mh_imul dX1_init_120 (q := 121) rfl ?_
  rw [pk_mul]
  refine mh_putI (Or.inr ⟨fw_X1_61, rfl⟩) rfl rfl dX1_init_121 (q := 124) rfl (shX1_0 k1) rfl ?_
  refine mh_aload_0 dX1_init_124 (q := 125) rfl ?_
  refine mh_iload_1 dX1_init_125 (q := 126) rfl ?_
  refine mh_iload_2 dX1_init_126 (q := 127) rfl ?_
  refine mh_callN2 ca_X1_init_127 (q := 130) rfl (by simp [Value.category]) ⟨Nat.zero_le _, Nat.zero_le _⟩ ?_
  refine sp_X6_sidesOf ?_
  refine mh_putI (Or.inr ⟨fw_X1_68, rfl⟩) rfl rfl dX1_init_130 (q := 133) rfl (shX1_0 k1) rfl ?_
  refine mh_aload_0 dX1_init_133 (q := 134) rfl ?_
  refine mh_getR fl_X1_52 dX1_init_134 (q := 137) rfl (shX1_0 k1) rfl ?_
  refine mh_iconst_0 dX1_init_137 (q := 138) rfl ?_
  refine mh_iconst_1 dX1_init_138 (q := 139) rfl ?_
  refine mh_iconst_2 dX1_init_139 (q := 140) rfl ?_
  refine mh_iload_1 dX1_init_140 (q := 141) rfl ?_
  refine mh_imul dX1_init_141 (q := 142) rfl ?_
  rw [show (2 : Int32) * nI w = nI (2 * w) from pk_mul 2 _]
  refine mh_isub dX1_init_142 (q := 143) rfl ?_
  refine mh_iast dX1_init_143 (q := 144) rfl (shX1_10 k1) (by decide) (vp_in_nI (n := 0) (by decide) (by decide)) ?_
  refine mh_aload_0 dX1_init_144 (q := 145) rfl ?_
  refine mh_getR fl_X1_52 dX1_init_145 (q := 148) rfl (shX1_0 k1) rfl ?_
  refine mh_iconst_1 dX1_init_148 (q := 149) rfl ?_
  refine mh_iconst_m1 dX1_init_149 (q := 150) rfl ?_
  refine mh_iast dX1_init_150 (q := 151) rfl (shX1_10 k1) (by decide) (vp_in_nI (n := 1) (by decide) (by decide)) ?_
  refine mh_aload_0 dX1_init_151 (q := 152) rfl ?_
  refine mh_getR fl_X1_52 dX1_init_152 (q := 155) rfl (shX1_0 k1) rfl ?_
  refine mh_iconst_2 dX1_init_155 (q := 156) rfl ?_
  refine mh_iconst_1 dX1_init_156 (q := 157) rfl ?_
  refine mh_iast dX1_init_157 (q := 158) rfl (shX1_10 k1) (by decide) (vp_in_nI (n := 2) (by decide) (by decide)) ?_
  refine mh_iconst_0 dX1_init_158 (q := 159) rfl ?_
  refine mh_istore_3 dX1_init_159 (q := 160) rfl ?_
  obtain ⟨F2, hF2⟩ : ∃ z, z = mhUF (mhUF (mhUF (mhUF (mhUF (mhUF (mhUF (mhUF F b 9 (-9)) b 10 (-9)) b 11 (-9)) b 12 (-9)) b 0 (nI w)) b 1 (nI h)) b 2 (nI (2 * w * h))) b 3 (nI (gSides w h)) := ⟨_, rfl⟩
  rw [← hF2]
  obtain ⟨I2, hI2⟩ : ∃ z, z = mhUI (mhUI (mhUI I1 (b + 10) 0 (1 - nI (2 * w))) (b + 10) 1 (-1)) (b + 10) 2 1 := ⟨_, rfl⟩
  rw [← hI2]
  have f0 : F2 b 0 = nI w := by rw [hF2]; exact (by (repeat (first | rw [mhUF_at] | rw [mhUF_nk (by omega)])) <;> rfl)
  have i2 : ∀ c y, c ≠ b + 10 → I2 c y = I1 c y := fun c y hc => by rw [hI2]; repeat rw [mhUI_ne hc]
  have t0 : tbl I2 b (mhTy1 w 0 (fun _ _ => 0)) := fun t ht y => by
    rw [i2 _ _ (by omega), Nat.add_assoc, iz _ _ (by omega) (by omega)]
    rfl
  refine lp_X1_initY k1 f0 g h 0 I2 _ (Nat.zero_add _) t0 (fun I3 o4 t3 f3 => ?_)
  refine mh_iconst_0 dX1_init_193 (q := 194) rfl ?_
  refine mh_istore_3 dX1_init_194 (q := 195) rfl ?_
  refine lp_X1_initB k1 f0 g h 0 I3 (Nat.zero_add _) t3 (fun I4 t4 f4 => ?_)
  refine mh_iconst_0 dX1_init_228 (q := 229) rfl ?_
  refine mh_istore_3 dX1_init_229 (q := 230) rfl ?_
  refine lp_X1_initC k1 f0 g w 0 I4 (Nat.zero_add _) t4 (fun I5 t5 f5 => ?_)
  have ft := f3.tr (f4.tr f5)
  have e10 : ∀ y, I5 (b + 10) y = I2 (b + 10) y := fun y => ft _ _ (by omega)
  refine hΦ S2 F2 I5 sl so ⟨k1, g, f0, (by rw [hF2]; exact (by (repeat (first | rw [mhUF_at] | rw [mhUF_nk (by omega)])) <;> rfl)), (by rw [hF2]; exact (by (repeat (first | rw [mhUF_at] | rw [mhUF_nk (by omega)])) <;> rfl)), (by rw [hF2]; exact (by (repeat (first | rw [mhUF_at] | rw [mhUF_nk (by omega)])) <;> rfl)), t5, ?_, ?_, ?_, hb52⟩ (fun c k e => by rw [hF2]; repeat rw [mhUF_ne e]) (fun c y hc => (ft _ _ (by omega)).trans ((i2 _ _ (by omega)).trans (io c y hc))) (fun y => ⟨(ft _ _ (by omega)).trans ((i2 _ _ (by omega)).trans (iz 1 y (by decide) (by decide))), (ft _ _ (by omega)).trans ((i2 _ _ (by omega)).trans (iz 2 y (by decide) (by decide)))⟩)
  · rw [e10, hI2, show (2 : Int32) * nI w = nI (2 * w) from pk_mul 2 _]
    simp (decide := true) only [mhUI, and_self, and_true, true_and, and_false, if_true, if_false]
  · rw [e10, hI2]
    simp (decide := true) only [mhUI, and_self, and_true, true_and, and_false, if_true, if_false]
  · rw [e10, hI2]
    simp (decide := true) only [mhUI, and_self, and_true, true_and, and_false, if_true, if_false]
