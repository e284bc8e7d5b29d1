/-! seen, met, image, images -/
def mhSeA (p q n what : Int32) : Prop := mhTurn p q ∧ (1 ≤ n ∧ n ≤ 200) ∧ (0 ≤ what ∧ what ≤ 3)
def mhSeR (what : Int32) (g : mhSg) : Int32 := if what = 0 then g.2.2.2.2.2.2 else if what = 1 then nI g.2.2.2.1 else if what = 2 then nI g.2.2.2.2.1 else nI g.2.2.1
theorem mh_n200 {n : Int32} (h : 1 ≤ n ∧ n ≤ 200) : ∃ k, k ≤ 200 ∧ n = nI k := by
  obtain ⟨k, hk, e⟩ := mh_of2 (n := 200) (M := 200) rfl (by grind) h.2
  exact ⟨k, by omega, e⟩
theorem mhTurn.bd {p q : Int32} (h : mhTurn p q) : sgBd p q := ⟨h.1, h.2.1⟩
def skS (im : Int32 → Int32 → Int32) (so p q : Int32) (s : Nat × Int32 × Int32 × Int32) : Nat × Int32 × Int32 × Int32 :=
  if (p = 0 ∧ q = 0) ∨ ¬ im p q = so then s else (s.1 + 1, if s.1 = 0 ∨ p * p + p * q + q * q < s.2.1 then (p * p + p * q + q * q, p, q) else s.2)
def skQ (im : Int32 → Int32 → Int32) (so p : Int32) : Nat → Int32 → (Nat × Int32 × Int32 × Int32) → Nat × Int32 × Int32 × Int32
  | 0, _, s => s
  | n + 1, q, s => skQ im so p n (q + 1) (skS im so p q s)
def skP (im : Int32 → Int32 → Int32) (so mg : Int32) (k : Nat) : Nat → Int32 → (Nat × Int32 × Int32 × Int32) → Nat × Int32 × Int32 × Int32
  | 0, _, s => s
  | n + 1, p, s => skP im so mg k n (p + 1) (skQ im so p k mg s)
theorem skS_c {im : Int32 → Int32 → Int32} {so p q : Int32} {s : Nat × Int32 × Int32 × Int32} : (skS im so p q s).1 ≤ s.1 + 1 := by
  unfold skS; split
  · exact Nat.le_succ _
  · exact Nat.le_refl _
theorem skQ_c {im : Int32 → Int32 → Int32} {so p : Int32} : ∀ {n : Nat} {q : Int32} {s : Nat × Int32 × Int32 × Int32}, (skQ im so p n q s).1 ≤ s.1 + n
  | 0, _, _ => Nat.le_refl _
  | n + 1, q, s => by
    have h1 := skQ_c (im := im) (so := so) (p := p) (n := n) (q := q + 1) (s := skS im so p q s)
    have h2 := skS_c (im := im) (so := so) (p := p) (q := q) (s := s)
    show (skQ im so p n (q + 1) (skS im so p q s)).1 ≤ _
    omega
/-- where nothing is found, nothing is kept -/
theorem skS_0 {im : Int32 → Int32 → Int32} {so p q : Int32} {s : Nat × Int32 × Int32 × Int32} (h : s.1 = 0 → s.2.2 = (-9, -9)) : (skS im so p q s).1 = 0 → (skS im so p q s).2.2 = (-9, -9) := by
  unfold skS; split
  · exact h
  · intro e; exact absurd e (Nat.succ_ne_zero _)
theorem skQ_0 {im : Int32 → Int32 → Int32} {so p : Int32} : ∀ {n : Nat} {q : Int32} {s : Nat × Int32 × Int32 × Int32}, (s.1 = 0 → s.2.2 = (-9, -9)) → (skQ im so p n q s).1 = 0 → (skQ im so p n q s).2.2 = (-9, -9)
  | 0, _, _, h => h
  | n + 1, q, s, h => skQ_0 (n := n) (skS_0 h)
theorem skP_0 {im : Int32 → Int32 → Int32} {so mg : Int32} {k : Nat} : ∀ {n : Nat} {p : Int32} {s : Nat × Int32 × Int32 × Int32}, (s.1 = 0 → s.2.2 = (-9, -9)) → (skP im so mg k n p s).1 = 0 → (skP im so mg k n p s).2.2 = (-9, -9)
  | 0, _, _, h => h
  | n + 1, p, s, h => skP_0 (n := n) (skQ_0 h)
theorem skP_c {im : Int32 → Int32 → Int32} {so mg : Int32} {k : Nat} : ∀ {n : Nat} {p : Int32} {s : Nat × Int32 × Int32 × Int32}, (skP im so mg k n p s).1 ≤ s.1 + n * k
  | 0, _, _ => Nat.le_add_right _ _
  | n + 1, p, s => by
    have h1 := skP_c (im := im) (so := so) (mg := mg) (k := k) (n := n) (p := p + 1) (s := skQ im so p k mg s)
    have h2 := skQ_c (im := im) (so := so) (p := p) (n := k) (q := mg) (s := s)
    show (skP im so mg k n (p + 1) (skQ im so p k mg s)).1 ≤ _
    have h3 : (n + 1) * k = n * k + k := Nat.succ_mul n k
    omega
def skA (im : Int32 → Int32 → Int32) (so : Int32) (g : Nat) : Nat × Int32 × Int32 × Int32 := skP im so (-nI g) (2 * g + 1) (2 * g + 1) (-nI g) (0, 0, -9, -9)
def mhImR (what : Int32) (s : Nat × Int32 × Int32 × Int32) : Int32 := if what = 0 then nI s.1 else if what = 1 then s.2.2.1 else s.2.2.2
/-- the class's found, nearestP, nearestQ -/
def skR (F : mhF) (s : Nat × Int32 × Int32 × Int32) : Prop := F 6 5 = nI s.1 ∧ (¬ s.1 = 0 → F 6 6 = s.2.2.1 ∧ F 6 7 = s.2.2.2)
def frS (F : mhF) (I : mhI) (F' : mhF) (I' : mhI) : Prop := (∀ b k, ¬ (b = 6 ∧ k < 8) → F' b k = F b k) ∧ ∀ b j, b ≠ 7 → b ≠ 8 → b ≠ 9 → I' b j = I b j
theorem frS.rf {F : mhF} {I : mhI} : frS F I F I := ⟨fun _ _ _ => rfl, fun _ _ _ _ _ => rfl⟩
theorem frS.tr {F F1 F2 : mhF} {I I1 I2 : mhI} (h : frS F I F1 I1) (h2 : frS F1 I1 F2 I2) : frS F I F2 I2 := ⟨fun b k e => (h2.1 b k e).trans (h.1 b k e), fun b j e1 e2 e3 => (h2.2 b j e1 e2 e3).trans (h.2 b j e1 e2 e3)⟩
theorem frC.s {F F1 : mhF} {I I1 : mhI} (h : frC F I F1 I1) : frS F I F1 I1 := ⟨fun b k e => h.1 b k (fun z => e ⟨z.1, by omega⟩), h.2⟩
theorem mhHs.frs {S : List mhS} {F F' : mhF} {I I' : mhI} {a w h : Nat} (hf : frS F I F' I') (H : mhHs S F I a w h) : mhHs S F' I' a w h := by
  obtain ⟨h1, h2, h3, h4, h5, h6, h7, h8, h9, h10, h11⟩ := H
  have e : ∀ k, F' a k = F a k := fun k => hf.1 a k (by omega)
  exact ⟨h1, h2, (e 0).trans h3, (e 1).trans h4, (e 2).trans h5, (e 3).trans h6, fun b hb j => (hf.2 _ j (by omega) (by omega) (by omega)).trans (h7 b hb j), (hf.2 _ _ (by omega) (by omega) (by omega)).trans h8, (hf.2 _ _ (by omega) (by omega) (by omega)).trans h9, (hf.2 _ _ (by omega) (by omega) (by omega)).trans h10, h11⟩
theorem mhPn.frs {F F' : mhF} {I I' : mhI} {a w h : Nat} {kd : Nat → Int32} (hf : frS F I F' I') (ha : 52 ≤ a) (H : mhPn I a w h kd) : mhPn I' a w h kd := fun k hk => (hf.2 _ _ (by omega) (by omega) (by omega)).trans (H k hk)
set_option maxHeartbeats 4000000 in
set_option maxRecDepth 100000 in
theorem lp_X4_seekQ {l : Launch} {K : mhX} {kc ks : Nat} {Φ : mhQ} {S : List mhS} {J : mhJ} {P : mhP} (h4 : mhKX4 S) {w h a r : Nat} {kd : Nat → Int32} {so g p : Int32} (hr : r < gRooms w h) (hg1 : 1 ≤ g) (hg2 : g ≤ 24) (hp1 : -24 ≤ p) (hp2 : p ≤ 24) : ∀ (m : Nat) (q : Int32) (F : mhF) (I : mhI) (s : Nat × Int32 × Int32 × Int32) (o8 : Option Value), q + nI m = g + 1 → -24 ≤ q → m ≤ 49 → s.1 + m ≤ 3000 → mhHs S F I a w h → mhPn I a w h kd → skR F s → (∀ (F2 : mhF) (I2 : mhI) (q8 : Int32) (o8 : Option Value), skR F2 (skQ (sgIm w h kd r) so p m q s) → frS F I F2 I2 → mhV l K mX4_seek kc ks Φ 124 [some (.ref 6), some (.ref a), some (.int (nI r)), some (.int so), some (.int g), some (.int (skQ (sgIm w h kd r) so p m q s).2.1), some (.int p), some (.int q8), o8] [] S F2 I2 J P) → mhV l K mX4_seek kc ks Φ 25 [some (.ref 6), some (.ref a), some (.int (nI r)), some (.int so), some (.int g), some (.int s.2.1), some (.int p), some (.int q), o8] [] S F I J P := by
  intro m
  induction m with
  | zero =>
    intro q F I s o8 hq hq1 hm hs hH hp hsk hΦ
    have e0 : nI 0 = (0 : Int32) := rfl
    rw [e0] at hq
    refine mh_iload_7 dX4_seek_25 (q := 27) rfl ?_
    refine mh_iload_4 dX4_seek_27 (q := 29) rfl ?_
    refine mh_icmp_gt dX4_seek_29 (tgt := 124) (q := 32) rfl rfl (fun _ => ?_) (fun hh => absurd (show g < q by grind) hh)
    exact hΦ F I _ _ hsk frS.rf
  | succ m ih =>
    intro q F I s o8 hq hq1 hm hs hH hp hsk hΦ
    have e1 : nI (m + 1) = nI m + 1 := (nI_1 m).symm
    have e2 : (0 : Int32) ≤ nI m := nI_pos' (by omega)
    have e3 : nI m ≤ nI 48 := (nI_leI (by omega) (by decide)).mpr (by omega)
    rw [show nI 48 = (48 : Int32) from rfl] at e3
    rw [e1] at hq
    have hqg : q ≤ g := by grind
    rw [show skQ (sgIm w h kd r) so p (m + 1) q s = skQ (sgIm w h kd r) so p m (q + 1) (skS (sgIm w h kd r) so p q s) from rfl] at hΦ
    have h9 := ih (q + 1)
    have hsc := skS_c (im := sgIm w h kd r) (so := so) (p := p) (q := q) (s := s)
    refine mh_iload_7 dX4_seek_25 (q := 27) rfl ?_
    refine mh_iload_4 dX4_seek_27 (q := 29) rfl ?_
    refine mh_icmp_gt dX4_seek_29 (tgt := 124) (q := 32) rfl rfl (fun hh => absurd hh (show ¬ g < q from Int32.not_lt.mpr hqg)) (fun _ => ?_)
    refine mh_iload_6 dX4_seek_32 (q := 34) rfl ?_
    refine mh_if_ne dX4_seek_34 (tgt := 42) (q := 37) rfl rfl (fun c34 => ?_) (fun c34 => ?_)
    · skip
      refine mh_aload_0 dX4_seek_42 (q := 43) rfl ?_
      refine mh_aload_1 dX4_seek_43 (q := 44) rfl ?_
      refine mh_iload_2 dX4_seek_44 (q := 45) rfl ?_
      refine mh_iload_6 dX4_seek_45 (q := 47) rfl ?_
      refine mh_iload_7 dX4_seek_47 (q := 49) rfl ?_
      refine mh_callV4 ca_X4_seek_49 (shX4_0 h4) (q := 52) rfl (by simp [Value.category]) ⟨Nat.zero_le _, Nat.zero_le _⟩ ?_
      refine sp_X4_imageBy h4 hH hp hr ⟨⟨by grind, by grind⟩, by grind, by grind⟩ (fun F2 I2 w2 => ?_)
      have v5 : F2 6 5 = nI s.1 := (w2.1 6 5 (by omega)).trans hsk.1
      have v6 : ¬ s.1 = 0 → F2 6 6 = s.2.2.1 ∧ F2 6 7 = s.2.2.2 := fun e => ⟨(w2.1 6 6 (by omega)).trans (hsk.2 e).1, (w2.1 6 7 (by omega)).trans (hsk.2 e).2⟩
      refine mh_iload_3 dX4_seek_52 (q := 53) rfl ?_
      refine mh_icmp_eq dX4_seek_53 (tgt := 59) (q := 56) rfl rfl (fun c53 => ?_) (fun c53 => ?_)
      · skip
        refine mh_iload_6 dX4_seek_59 (q := 61) rfl ?_
        refine mh_iload_6 dX4_seek_61 (q := 63) rfl ?_
        refine mh_imul dX4_seek_63 (q := 64) rfl ?_
        refine mh_iload_6 dX4_seek_64 (q := 66) rfl ?_
        refine mh_iload_7 dX4_seek_66 (q := 68) rfl ?_
        refine mh_imul dX4_seek_68 (q := 69) rfl ?_
        refine mh_iadd dX4_seek_69 (q := 70) rfl ?_
        refine mh_iload_7 dX4_seek_70 (q := 72) rfl ?_
        refine mh_iload_7 dX4_seek_72 (q := 74) rfl ?_
        refine mh_imul dX4_seek_74 (q := 75) rfl ?_
        refine mh_iadd dX4_seek_75 (q := 76) rfl ?_
        refine mh_istore_8 dX4_seek_76 (q := 78) rfl ?_
        refine mh_aload_0 dX4_seek_78 (q := 79) rfl ?_
        refine mh_getI fl_X4_84 dX4_seek_79 (q := 82) rfl (shX4_0 h4) rfl ?_
        rw [v5]
        refine mh_if_eq dX4_seek_82 (tgt := 92) (q := 85) rfl rfl (fun c82 => ?_) (fun c82 => ?_)
        · skip
          refine mh_iload_8 dX4_seek_92 (q := 94) rfl ?_
          refine mh_istore_5 dX4_seek_94 (q := 96) rfl ?_
          refine mh_aload_0 dX4_seek_96 (q := 97) rfl ?_
          refine mh_iload_6 dX4_seek_97 (q := 99) rfl ?_
          refine mh_putI (Or.inl fw_X4_91) rfl rfl dX4_seek_99 (q := 102) rfl (shX4_0 h4) rfl ?_
          refine mh_aload_0 dX4_seek_102 (q := 103) rfl ?_
          refine mh_iload_7 dX4_seek_103 (q := 105) rfl ?_
          refine mh_putI (Or.inl fw_X4_94) rfl rfl dX4_seek_105 (q := 108) rfl (shX4_0 h4) rfl ?_
          refine mh_aload_0 dX4_seek_108 (q := 109) rfl ?_
          refine mh_dupr dX4_seek_109 (q := 110) rfl ?_
          refine mh_getI fl_X4_84 dX4_seek_110 (q := 113) rfl (shX4_0 h4) rfl ?_
          first | rw [v5] | rw [show (mhUF (mhUF F2 6 6 p) 6 7 q) 6 5 = nI s.1 from (by (repeat (first | rw [mhUF_at] | rw [mhUF_nk (by decide)])) <;> first | assumption | rfl)]
          refine mh_iconst_1 dX4_seek_113 (q := 114) rfl ?_
          refine mh_iadd dX4_seek_114 (q := 115) rfl ?_
          rw [nI_1]
          refine mh_putI (Or.inl fw_X4_84) rfl rfl dX4_seek_115 (q := 118) rfl (shX4_0 h4) rfl ?_
          refine mh_iinc_7 (v := 1) dX4_seek_118 (q := 121) rfl (by decide) ?_
          refine mh_goto dX4_seek_121 (tgt := 25) rfl ?_
          have hnz : ¬ ((p = 0 ∧ q = 0) ∨ ¬ sgIm w h kd r p q = so) := fun e => e.elim (fun z => c34 z.1) (fun z => z c53)
          rw [show (0 : Int32) = nI 0 from rfl, nI_eq (by omega) (by decide)] at c82
          have es : skS (sgIm w h kd r) so p q s = (s.1 + 1, p * p + p * q + q * q, p, q) := by
            unfold skS
            rw [if_neg hnz, if_pos (Or.inl c82)]
          rw [es] at hΦ
          have hfr : frS F2 I2 (mhUF (mhUF (mhUF F2 6 6 p) 6 7 q) 6 5 (nI (s.1 + 1))) I2 := ⟨fun b k e => by repeat rw [mhUF_nk (by omega)], fun _ _ _ _ _ => rfl⟩
          exact h9 _ I2 (s.1 + 1, p * p + p * q + q * q, p, q) _ (by grind) (by grind) (by omega) (by dsimp only; omega) ((hH.fr w2).frs hfr) ((hp.fr w2 hH.2.2.2.2.2.2.2.2.2.2).frs hfr hH.2.2.2.2.2.2.2.2.2.2) ⟨mhUF_at, fun _ => ⟨by (repeat (first | rw [mhUF_at] | rw [mhUF_nk (by decide)])) <;> first | assumption | rfl, by (repeat (first | rw [mhUF_at] | rw [mhUF_nk (by decide)])) <;> first | assumption | rfl⟩⟩ (fun F3 I3 q8 o8 u1 u2 => hΦ F3 I3 q8 o8 u1 (w2.s.tr (hfr.tr u2)))
        · skip
          refine mh_iload_8 dX4_seek_85 (q := 87) rfl ?_
          refine mh_iload_5 dX4_seek_87 (q := 89) rfl ?_
          refine mh_icmp_ge dX4_seek_89 (tgt := 108) (q := 92) rfl rfl (fun c89 => ?_) (fun c89 => ?_)
          · skip
            refine mh_aload_0 dX4_seek_108 (q := 109) rfl ?_
            refine mh_dupr dX4_seek_109 (q := 110) rfl ?_
            refine mh_getI fl_X4_84 dX4_seek_110 (q := 113) rfl (shX4_0 h4) rfl ?_
            first | rw [v5] | rw [show (mhUF (mhUF F2 6 6 p) 6 7 q) 6 5 = nI s.1 from (by (repeat (first | rw [mhUF_at] | rw [mhUF_nk (by decide)])) <;> first | assumption | rfl)]
            refine mh_iconst_1 dX4_seek_113 (q := 114) rfl ?_
            refine mh_iadd dX4_seek_114 (q := 115) rfl ?_
            rw [nI_1]
            refine mh_putI (Or.inl fw_X4_84) rfl rfl dX4_seek_115 (q := 118) rfl (shX4_0 h4) rfl ?_
            refine mh_iinc_7 (v := 1) dX4_seek_118 (q := 121) rfl (by decide) ?_
            refine mh_goto dX4_seek_121 (tgt := 25) rfl ?_
            have hnz : ¬ ((p = 0 ∧ q = 0) ∨ ¬ sgIm w h kd r p q = so) := fun e => e.elim (fun z => c34 z.1) (fun z => z c53)
            rw [show (0 : Int32) = nI 0 from rfl, nI_eq (by omega) (by decide)] at c82
            have es : skS (sgIm w h kd r) so p q s = (s.1 + 1, s.2) := by
              unfold skS
              rw [if_neg hnz, if_neg (fun e => e.elim c82 (fun z => absurd z (Int32.not_lt.mpr c89)))]
            rw [es] at hΦ
            have hfr : frS F2 I2 (mhUF F2 6 5 (nI (s.1 + 1))) I2 := ⟨fun b k e => by repeat rw [mhUF_nk (by omega)], fun _ _ _ _ _ => rfl⟩
            exact h9 _ I2 (s.1 + 1, s.2) _ (by grind) (by grind) (by omega) (by dsimp only; omega) ((hH.fr w2).frs hfr) ((hp.fr w2 hH.2.2.2.2.2.2.2.2.2.2).frs hfr hH.2.2.2.2.2.2.2.2.2.2) ⟨mhUF_at, fun _ => ⟨(mhUF_nk (by decide)).trans (v6 c82).1, (mhUF_nk (by decide)).trans (v6 c82).2⟩⟩ (fun F3 I3 q8 o8 u1 u2 => hΦ F3 I3 q8 o8 u1 (w2.s.tr (hfr.tr u2)))
          · skip
            refine mh_iload_8 dX4_seek_92 (q := 94) rfl ?_
            refine mh_istore_5 dX4_seek_94 (q := 96) rfl ?_
            refine mh_aload_0 dX4_seek_96 (q := 97) rfl ?_
            refine mh_iload_6 dX4_seek_97 (q := 99) rfl ?_
            refine mh_putI (Or.inl fw_X4_91) rfl rfl dX4_seek_99 (q := 102) rfl (shX4_0 h4) rfl ?_
            refine mh_aload_0 dX4_seek_102 (q := 103) rfl ?_
            refine mh_iload_7 dX4_seek_103 (q := 105) rfl ?_
            refine mh_putI (Or.inl fw_X4_94) rfl rfl dX4_seek_105 (q := 108) rfl (shX4_0 h4) rfl ?_
            refine mh_aload_0 dX4_seek_108 (q := 109) rfl ?_
            refine mh_dupr dX4_seek_109 (q := 110) rfl ?_
            refine mh_getI fl_X4_84 dX4_seek_110 (q := 113) rfl (shX4_0 h4) rfl ?_
            first | rw [v5] | rw [show (mhUF (mhUF F2 6 6 p) 6 7 q) 6 5 = nI s.1 from (by (repeat (first | rw [mhUF_at] | rw [mhUF_nk (by decide)])) <;> first | assumption | rfl)]
            refine mh_iconst_1 dX4_seek_113 (q := 114) rfl ?_
            refine mh_iadd dX4_seek_114 (q := 115) rfl ?_
            rw [nI_1]
            refine mh_putI (Or.inl fw_X4_84) rfl rfl dX4_seek_115 (q := 118) rfl (shX4_0 h4) rfl ?_
            refine mh_iinc_7 (v := 1) dX4_seek_118 (q := 121) rfl (by decide) ?_
            refine mh_goto dX4_seek_121 (tgt := 25) rfl ?_
            have hnz : ¬ ((p = 0 ∧ q = 0) ∨ ¬ sgIm w h kd r p q = so) := fun e => e.elim (fun z => c34 z.1) (fun z => z c53)
            rw [show (0 : Int32) = nI 0 from rfl, nI_eq (by omega) (by decide)] at c82
            have es : skS (sgIm w h kd r) so p q s = (s.1 + 1, p * p + p * q + q * q, p, q) := by
              unfold skS
              rw [if_neg hnz, if_pos (Or.inr (Int32.not_le.mp c89))]
            rw [es] at hΦ
            have hfr : frS F2 I2 (mhUF (mhUF (mhUF F2 6 6 p) 6 7 q) 6 5 (nI (s.1 + 1))) I2 := ⟨fun b k e => by repeat rw [mhUF_nk (by omega)], fun _ _ _ _ _ => rfl⟩
            exact h9 _ I2 (s.1 + 1, p * p + p * q + q * q, p, q) _ (by grind) (by grind) (by omega) (by dsimp only; omega) ((hH.fr w2).frs hfr) ((hp.fr w2 hH.2.2.2.2.2.2.2.2.2.2).frs hfr hH.2.2.2.2.2.2.2.2.2.2) ⟨mhUF_at, fun _ => ⟨by (repeat (first | rw [mhUF_at] | rw [mhUF_nk (by decide)])) <;> first | assumption | rfl, by (repeat (first | rw [mhUF_at] | rw [mhUF_nk (by decide)])) <;> first | assumption | rfl⟩⟩ (fun F3 I3 q8 o8 u1 u2 => hΦ F3 I3 q8 o8 u1 (w2.s.tr (hfr.tr u2)))
      · skip
        refine mh_goto dX4_seek_56 (tgt := 118) rfl ?_
        refine mh_iinc_7 (v := 1) dX4_seek_118 (q := 121) rfl (by decide) ?_
        refine mh_goto dX4_seek_121 (tgt := 25) rfl ?_
        have es : skS (sgIm w h kd r) so p q s = s := by unfold skS; rw [if_pos (Or.inr c53)]
        rw [es] at hΦ
        exact h9 F2 I2 s _ (by grind) (by grind) (by omega) (by omega) (hH.fr w2) (hp.fr w2 hH.2.2.2.2.2.2.2.2.2.2) ⟨v5, v6⟩ (fun F3 I3 q8 o8 u1 u2 => hΦ F3 I3 q8 o8 u1 (w2.s.tr u2))
    · skip
      refine mh_iload_7 dX4_seek_37 (q := 39) rfl ?_
      refine mh_if_eq dX4_seek_39 (tgt := 118) (q := 42) rfl rfl (fun c39 => ?_) (fun c39 => ?_)
      · skip
        refine mh_iinc_7 (v := 1) dX4_seek_118 (q := 121) rfl (by decide) ?_
        refine mh_goto dX4_seek_121 (tgt := 25) rfl ?_
        have es : skS (sgIm w h kd r) so p q s = s := by unfold skS; rw [if_pos (Or.inl ⟨c34, c39⟩)]
        rw [es] at hΦ
        exact h9 F I s _ (by grind) (by grind) (by omega) (by omega) hH hp hsk hΦ
      · skip
        refine mh_aload_0 dX4_seek_42 (q := 43) rfl ?_
        refine mh_aload_1 dX4_seek_43 (q := 44) rfl ?_
        refine mh_iload_2 dX4_seek_44 (q := 45) rfl ?_
        refine mh_iload_6 dX4_seek_45 (q := 47) rfl ?_
        refine mh_iload_7 dX4_seek_47 (q := 49) rfl ?_
        refine mh_callV4 ca_X4_seek_49 (shX4_0 h4) (q := 52) rfl (by simp [Value.category]) ⟨Nat.zero_le _, Nat.zero_le _⟩ ?_
        refine sp_X4_imageBy h4 hH hp hr ⟨⟨by grind, by grind⟩, by grind, by grind⟩ (fun F2 I2 w2 => ?_)
        have v5 : F2 6 5 = nI s.1 := (w2.1 6 5 (by omega)).trans hsk.1
        have v6 : ¬ s.1 = 0 → F2 6 6 = s.2.2.1 ∧ F2 6 7 = s.2.2.2 := fun e => ⟨(w2.1 6 6 (by omega)).trans (hsk.2 e).1, (w2.1 6 7 (by omega)).trans (hsk.2 e).2⟩
        refine mh_iload_3 dX4_seek_52 (q := 53) rfl ?_
        refine mh_icmp_eq dX4_seek_53 (tgt := 59) (q := 56) rfl rfl (fun c53 => ?_) (fun c53 => ?_)
        · skip
          refine mh_iload_6 dX4_seek_59 (q := 61) rfl ?_
          refine mh_iload_6 dX4_seek_61 (q := 63) rfl ?_
          refine mh_imul dX4_seek_63 (q := 64) rfl ?_
          refine mh_iload_6 dX4_seek_64 (q := 66) rfl ?_
          refine mh_iload_7 dX4_seek_66 (q := 68) rfl ?_
          refine mh_imul dX4_seek_68 (q := 69) rfl ?_
          refine mh_iadd dX4_seek_69 (q := 70) rfl ?_
          refine mh_iload_7 dX4_seek_70 (q := 72) rfl ?_
          refine mh_iload_7 dX4_seek_72 (q := 74) rfl ?_
          refine mh_imul dX4_seek_74 (q := 75) rfl ?_
          refine mh_iadd dX4_seek_75 (q := 76) rfl ?_
          refine mh_istore_8 dX4_seek_76 (q := 78) rfl ?_
          refine mh_aload_0 dX4_seek_78 (q := 79) rfl ?_
          refine mh_getI fl_X4_84 dX4_seek_79 (q := 82) rfl (shX4_0 h4) rfl ?_
          rw [v5]
          refine mh_if_eq dX4_seek_82 (tgt := 92) (q := 85) rfl rfl (fun c82 => ?_) (fun c82 => ?_)
          · skip
            refine mh_iload_8 dX4_seek_92 (q := 94) rfl ?_
            refine mh_istore_5 dX4_seek_94 (q := 96) rfl ?_
            refine mh_aload_0 dX4_seek_96 (q := 97) rfl ?_
            refine mh_iload_6 dX4_seek_97 (q := 99) rfl ?_
            refine mh_putI (Or.inl fw_X4_91) rfl rfl dX4_seek_99 (q := 102) rfl (shX4_0 h4) rfl ?_
            refine mh_aload_0 dX4_seek_102 (q := 103) rfl ?_
            refine mh_iload_7 dX4_seek_103 (q := 105) rfl ?_
            refine mh_putI (Or.inl fw_X4_94) rfl rfl dX4_seek_105 (q := 108) rfl (shX4_0 h4) rfl ?_
            refine mh_aload_0 dX4_seek_108 (q := 109) rfl ?_
            refine mh_dupr dX4_seek_109 (q := 110) rfl ?_
            refine mh_getI fl_X4_84 dX4_seek_110 (q := 113) rfl (shX4_0 h4) rfl ?_
            first | rw [v5] | rw [show (mhUF (mhUF F2 6 6 p) 6 7 q) 6 5 = nI s.1 from (by (repeat (first | rw [mhUF_at] | rw [mhUF_nk (by decide)])) <;> first | assumption | rfl)]
            refine mh_iconst_1 dX4_seek_113 (q := 114) rfl ?_
            refine mh_iadd dX4_seek_114 (q := 115) rfl ?_
            rw [nI_1]
            refine mh_putI (Or.inl fw_X4_84) rfl rfl dX4_seek_115 (q := 118) rfl (shX4_0 h4) rfl ?_
            refine mh_iinc_7 (v := 1) dX4_seek_118 (q := 121) rfl (by decide) ?_
            refine mh_goto dX4_seek_121 (tgt := 25) rfl ?_
            have hnz : ¬ ((p = 0 ∧ q = 0) ∨ ¬ sgIm w h kd r p q = so) := fun e => e.elim (fun z => c39 z.2) (fun z => z c53)
            rw [show (0 : Int32) = nI 0 from rfl, nI_eq (by omega) (by decide)] at c82
            have es : skS (sgIm w h kd r) so p q s = (s.1 + 1, p * p + p * q + q * q, p, q) := by
              unfold skS
              rw [if_neg hnz, if_pos (Or.inl c82)]
            rw [es] at hΦ
            have hfr : frS F2 I2 (mhUF (mhUF (mhUF F2 6 6 p) 6 7 q) 6 5 (nI (s.1 + 1))) I2 := ⟨fun b k e => by repeat rw [mhUF_nk (by omega)], fun _ _ _ _ _ => rfl⟩
            exact h9 _ I2 (s.1 + 1, p * p + p * q + q * q, p, q) _ (by grind) (by grind) (by omega) (by dsimp only; omega) ((hH.fr w2).frs hfr) ((hp.fr w2 hH.2.2.2.2.2.2.2.2.2.2).frs hfr hH.2.2.2.2.2.2.2.2.2.2) ⟨mhUF_at, fun _ => ⟨by (repeat (first | rw [mhUF_at] | rw [mhUF_nk (by decide)])) <;> first | assumption | rfl, by (repeat (first | rw [mhUF_at] | rw [mhUF_nk (by decide)])) <;> first | assumption | rfl⟩⟩ (fun F3 I3 q8 o8 u1 u2 => hΦ F3 I3 q8 o8 u1 (w2.s.tr (hfr.tr u2)))
          · skip
            refine mh_iload_8 dX4_seek_85 (q := 87) rfl ?_
            refine mh_iload_5 dX4_seek_87 (q := 89) rfl ?_
            refine mh_icmp_ge dX4_seek_89 (tgt := 108) (q := 92) rfl rfl (fun c89 => ?_) (fun c89 => ?_)
            · skip
              refine mh_aload_0 dX4_seek_108 (q := 109) rfl ?_
              refine mh_dupr dX4_seek_109 (q := 110) rfl ?_
              refine mh_getI fl_X4_84 dX4_seek_110 (q := 113) rfl (shX4_0 h4) rfl ?_
              first | rw [v5] | rw [show (mhUF (mhUF F2 6 6 p) 6 7 q) 6 5 = nI s.1 from (by (repeat (first | rw [mhUF_at] | rw [mhUF_nk (by decide)])) <;> first | assumption | rfl)]
              refine mh_iconst_1 dX4_seek_113 (q := 114) rfl ?_
              refine mh_iadd dX4_seek_114 (q := 115) rfl ?_
              rw [nI_1]
              refine mh_putI (Or.inl fw_X4_84) rfl rfl dX4_seek_115 (q := 118) rfl (shX4_0 h4) rfl ?_
              refine mh_iinc_7 (v := 1) dX4_seek_118 (q := 121) rfl (by decide) ?_
              refine mh_goto dX4_seek_121 (tgt := 25) rfl ?_
              have hnz : ¬ ((p = 0 ∧ q = 0) ∨ ¬ sgIm w h kd r p q = so) := fun e => e.elim (fun z => c39 z.2) (fun z => z c53)
              rw [show (0 : Int32) = nI 0 from rfl, nI_eq (by omega) (by decide)] at c82
              have es : skS (sgIm w h kd r) so p q s = (s.1 + 1, s.2) := by
                unfold skS
                rw [if_neg hnz, if_neg (fun e => e.elim c82 (fun z => absurd z (Int32.not_lt.mpr c89)))]
              rw [es] at hΦ
              have hfr : frS F2 I2 (mhUF F2 6 5 (nI (s.1 + 1))) I2 := ⟨fun b k e => by repeat rw [mhUF_nk (by omega)], fun _ _ _ _ _ => rfl⟩
              exact h9 _ I2 (s.1 + 1, s.2) _ (by grind) (by grind) (by omega) (by dsimp only; omega) ((hH.fr w2).frs hfr) ((hp.fr w2 hH.2.2.2.2.2.2.2.2.2.2).frs hfr hH.2.2.2.2.2.2.2.2.2.2) ⟨mhUF_at, fun _ => ⟨(mhUF_nk (by decide)).trans (v6 c82).1, (mhUF_nk (by decide)).trans (v6 c82).2⟩⟩ (fun F3 I3 q8 o8 u1 u2 => hΦ F3 I3 q8 o8 u1 (w2.s.tr (hfr.tr u2)))
            · skip
              refine mh_iload_8 dX4_seek_92 (q := 94) rfl ?_
              refine mh_istore_5 dX4_seek_94 (q := 96) rfl ?_
              refine mh_aload_0 dX4_seek_96 (q := 97) rfl ?_
              refine mh_iload_6 dX4_seek_97 (q := 99) rfl ?_
              refine mh_putI (Or.inl fw_X4_91) rfl rfl dX4_seek_99 (q := 102) rfl (shX4_0 h4) rfl ?_
              refine mh_aload_0 dX4_seek_102 (q := 103) rfl ?_
              refine mh_iload_7 dX4_seek_103 (q := 105) rfl ?_
              refine mh_putI (Or.inl fw_X4_94) rfl rfl dX4_seek_105 (q := 108) rfl (shX4_0 h4) rfl ?_
              refine mh_aload_0 dX4_seek_108 (q := 109) rfl ?_
              refine mh_dupr dX4_seek_109 (q := 110) rfl ?_
              refine mh_getI fl_X4_84 dX4_seek_110 (q := 113) rfl (shX4_0 h4) rfl ?_
              first | rw [v5] | rw [show (mhUF (mhUF F2 6 6 p) 6 7 q) 6 5 = nI s.1 from (by (repeat (first | rw [mhUF_at] | rw [mhUF_nk (by decide)])) <;> first | assumption | rfl)]
              refine mh_iconst_1 dX4_seek_113 (q := 114) rfl ?_
              refine mh_iadd dX4_seek_114 (q := 115) rfl ?_
              rw [nI_1]
              refine mh_putI (Or.inl fw_X4_84) rfl rfl dX4_seek_115 (q := 118) rfl (shX4_0 h4) rfl ?_
              refine mh_iinc_7 (v := 1) dX4_seek_118 (q := 121) rfl (by decide) ?_
              refine mh_goto dX4_seek_121 (tgt := 25) rfl ?_
              have hnz : ¬ ((p = 0 ∧ q = 0) ∨ ¬ sgIm w h kd r p q = so) := fun e => e.elim (fun z => c39 z.2) (fun z => z c53)
              rw [show (0 : Int32) = nI 0 from rfl, nI_eq (by omega) (by decide)] at c82
              have es : skS (sgIm w h kd r) so p q s = (s.1 + 1, p * p + p * q + q * q, p, q) := by
                unfold skS
                rw [if_neg hnz, if_pos (Or.inr (Int32.not_le.mp c89))]
              rw [es] at hΦ
              have hfr : frS F2 I2 (mhUF (mhUF (mhUF F2 6 6 p) 6 7 q) 6 5 (nI (s.1 + 1))) I2 := ⟨fun b k e => by repeat rw [mhUF_nk (by omega)], fun _ _ _ _ _ => rfl⟩
              exact h9 _ I2 (s.1 + 1, p * p + p * q + q * q, p, q) _ (by grind) (by grind) (by omega) (by dsimp only; omega) ((hH.fr w2).frs hfr) ((hp.fr w2 hH.2.2.2.2.2.2.2.2.2.2).frs hfr hH.2.2.2.2.2.2.2.2.2.2) ⟨mhUF_at, fun _ => ⟨by (repeat (first | rw [mhUF_at] | rw [mhUF_nk (by decide)])) <;> first | assumption | rfl, by (repeat (first | rw [mhUF_at] | rw [mhUF_nk (by decide)])) <;> first | assumption | rfl⟩⟩ (fun F3 I3 q8 o8 u1 u2 => hΦ F3 I3 q8 o8 u1 (w2.s.tr (hfr.tr u2)))
        · skip
          refine mh_goto dX4_seek_56 (tgt := 118) rfl ?_
          refine mh_iinc_7 (v := 1) dX4_seek_118 (q := 121) rfl (by decide) ?_
          refine mh_goto dX4_seek_121 (tgt := 25) rfl ?_
          have es : skS (sgIm w h kd r) so p q s = s := by unfold skS; rw [if_pos (Or.inr c53)]
          rw [es] at hΦ
          exact h9 F2 I2 s _ (by grind) (by grind) (by omega) (by omega) (hH.fr w2) (hp.fr w2 hH.2.2.2.2.2.2.2.2.2.2) ⟨v5, v6⟩ (fun F3 I3 q8 o8 u1 u2 => hΦ F3 I3 q8 o8 u1 (w2.s.tr u2))
set_option maxHeartbeats 4000000 in
set_option maxRecDepth 100000 in
theorem lp_X4_seekP {l : Launch} {K : mhX} {kc ks : Nat} {Φ : mhQ} {S : List mhS} {J : mhJ} {P : mhP} (h4 : mhKX4 S) {w h a r : Nat} {kd : Nat → Int32} {so : Int32} {gn : Nat} (hr : r < gRooms w h) (hg1 : 1 ≤ gn) (hg2 : gn ≤ 24) : ∀ (m : Nat) (p : Int32) (F : mhF) (I : mhI) (s : Nat × Int32 × Int32 × Int32) (o7 o8 : Option Value), p + nI m = nI gn + 1 → -24 ≤ p → m ≤ 49 → s.1 + 49 * m ≤ 2500 → mhHs S F I a w h → mhPn I a w h kd → skR F s → (∀ (F2 : mhF) (I2 : mhI), skR F2 (skP (sgIm w h kd r) so (-nI gn) (2 * gn + 1) m p s) → frS F I F2 I2 → Φ none S F2 I2 J P) → mhV l K mX4_seek kc ks Φ 13 [some (.ref 6), some (.ref a), some (.int (nI r)), some (.int so), some (.int (nI gn)), some (.int s.2.1), some (.int p), o7, o8] [] S F I J P := by
  have g1 : (1 : Int32) ≤ nI gn := by rw [show (1 : Int32) = nI 1 from rfl, nI_leI (by decide) (by omega)]; exact hg1
  have g2 : nI gn ≤ (24 : Int32) := by rw [show (24 : Int32) = nI 24 from rfl, nI_leI (by omega) (by decide)]; exact hg2
  intro m
  induction m with
  | zero =>
    intro p F I s o7 o8 hq hq1 hm hs hH hp hsk hΦ
    have e0 : nI 0 = (0 : Int32) := rfl
    rw [e0] at hq
    refine mh_iload_6 dX4_seek_13 (q := 15) rfl ?_
    refine mh_iload_4 dX4_seek_15 (q := 17) rfl ?_
    refine mh_icmp_gt dX4_seek_17 (tgt := 130) (q := 20) rfl rfl (fun _ => ?_) (fun hh => absurd (show nI gn < p by grind) hh)
    refine mh_return dX4_seek_130 rfl ?_
    exact hΦ F I hsk frS.rf
  | succ m ih =>
    intro p F I s o7 o8 hq hq1 hm hs hH hp hsk hΦ
    have e1 : nI (m + 1) = nI m + 1 := (nI_1 m).symm
    have e2 : (0 : Int32) ≤ nI m := nI_pos' (by omega)
    have e3 : nI m ≤ nI 48 := (nI_leI (by omega) (by decide)).mpr (by omega)
    rw [show nI 48 = (48 : Int32) from rfl] at e3
    rw [e1] at hq
    have hqg : p ≤ nI gn := by grind
    refine mh_iload_6 dX4_seek_13 (q := 15) rfl ?_
    refine mh_iload_4 dX4_seek_15 (q := 17) rfl ?_
    refine mh_icmp_gt dX4_seek_17 (tgt := 130) (q := 20) rfl rfl (fun hh => absurd hh (show ¬ nI gn < p from Int32.not_lt.mpr hqg)) (fun _ => ?_)
    refine mh_iload_4 dX4_seek_20 (q := 22) rfl ?_
    refine mh_ineg dX4_seek_22 (q := 23) rfl ?_
    refine mh_istore_7 dX4_seek_23 (q := 25) rfl ?_
    have eg : -nI gn + nI (2 * gn + 1) = nI gn + 1 := by
      have t : nI (2 * gn + 1) = nI gn + nI gn + 1 := by rw [nI_add, nI_1]; exact congrArg nI (by omega)
      rw [t]; grind
    refine lp_X4_seekQ h4 hr g1 g2 (by grind) (by grind) (2 * gn + 1) (-nI gn) F I s _ eg (by grind) (by omega) (by omega) hH hp hsk (fun F2 I2 q8 o8 u1 u2 => ?_)
    have hc := skQ_c (im := sgIm w h kd r) (so := so) (p := p) (n := 2 * gn + 1) (q := -nI gn) (s := s)
    refine mh_iinc_6 (v := 1) dX4_seek_124 (q := 127) rfl (by decide) ?_
    refine mh_goto dX4_seek_127 (tgt := 13) rfl ?_
    exact ih (p + 1) F2 I2 _ _ _ (by grind) (by grind) (by omega) (by omega) (hH.frs u2) (hp.frs u2 hH.2.2.2.2.2.2.2.2.2.2) u1 (fun F3 I3 t1 t2 => hΦ F3 I3 t1 (u2.tr t2))
set_option maxHeartbeats 4000000 in
set_option maxRecDepth 100000 in
theorem sp_X4_seek {l : Launch} {K : mhX} {Φ : mhQ} {S : List mhS} {F : mhF} {I : mhI} {J : mhJ} {P : mhP} (h4 : mhKX4 S) {w h a r gn : Nat} {kd : Nat → Int32} {so : Int32} (hH : mhHs S F I a w h) (hp : mhPn I a w h kd) (hr : r < gRooms w h) (hg1 : 1 ≤ gn) (hg2 : gn ≤ 24) (hΦ : ∀ (F2 : mhF) (I2 : mhI), skR F2 (skA (sgIm w h kd r) so gn) → frS F I F2 I2 → Φ none S F2 I2 J P) : mhOk l K mX4_seek [.ref 6, .ref a, .int (nI r), .int so, .int (nI gn)] S F I J P Φ := by
  refine mhOk.of (by decide) (by decide) rfl (Nat.le_of_ble_eq_true rfl) ?_
  have g1 : (1 : Int32) ≤ nI gn := by rw [show (1 : Int32) = nI 1 from rfl, nI_leI (by decide) (by omega)]; exact hg1
  have g2 : nI gn ≤ (24 : Int32) := by rw [show (24 : Int32) = nI 24 from rfl, nI_leI (by omega) (by decide)]; exact hg2
  refine mh_aload_0 dX4_seek_0 (q := 1) rfl ?_
  refine mh_iconst_0 dX4_seek_1 (q := 2) rfl ?_
  refine mh_putI (Or.inl fw_X4_84) rfl rfl dX4_seek_2 (q := 5) rfl (shX4_0 h4) rfl ?_
  refine mh_iconst_0 dX4_seek_5 (q := 6) rfl ?_
  refine mh_istore_5 dX4_seek_6 (q := 8) rfl ?_
  refine mh_iload_4 dX4_seek_8 (q := 10) rfl ?_
  refine mh_ineg dX4_seek_10 (q := 11) rfl ?_
  refine mh_istore_6 dX4_seek_11 (q := 13) rfl ?_
  have eg : -nI gn + nI (2 * gn + 1) = nI gn + 1 := by
    have t : nI (2 * gn + 1) = nI gn + nI gn + 1 := by rw [nI_add, nI_1]; exact congrArg nI (by omega)
    rw [t]; grind
  have hfr : frS F I (mhUF F 6 5 0) I := ⟨fun b k e => by repeat rw [mhUF_nk (by omega)], fun _ _ _ _ _ => rfl⟩
  exact lp_X4_seekP (kc := mX4_seek.2.2.2.2.cells) (ks := mX4_seek.2.2.2.2.slots) h4 hr hg1 hg2 (2 * gn + 1) (-nI gn) (mhUF F 6 5 0) I (0, 0, -9, -9) _ _ eg (by grind) (by omega) (by dsimp only; omega) (hH.frs hfr) (hp.frs hfr hH.2.2.2.2.2.2.2.2.2.2) ⟨(by (repeat (first | rw [mhUF_at] | rw [mhUF_nk (by decide)])) <;> first | assumption | rfl), fun e => absurd rfl e⟩ (fun F2 I2 u1 u2 => hΦ F2 I2 u1 (hfr.tr u2))
set_option maxHeartbeats 4000000 in
set_option maxRecDepth 100000 in
theorem lp_X7_seekQ {l : Launch} {K : mhX} {kc ks : Nat} {Φ : mhQ} {S : List mhS} {J : mhJ} {P : mhP} (h7 : mhKX7 S) {w h j r : Nat} {kd : Nat → Int32} {x y so g what p : Int32} (ex : x = nI j) (ey : y = nI r) (hr : r < gRooms w h) (hg1 : 1 ≤ g) (hg2 : g ≤ 24) (hp1 : -24 ≤ p) (hp2 : p ≤ 24) : ∀ (m : Nat) (q : Int32) (F : mhF) (I : mhI) (s : Nat × Int32 × Int32 × Int32) (o12 : Option Value), q + nI m = g + 1 → -24 ≤ q → m ≤ 49 → s.1 + m ≤ 3000 → mhHm I j w h → mhKn I j w h kd → (∀ (F2 : mhF) (I2 : mhI) (q8 : Int32) (o12 : Option Value), frM F I F2 I2 → mhV l K mX7_images kc ks Φ 161 [some (.ref 21), some (.int x), some (.int y), some (.int so), some (.int g), some (.int what), some (.int (nI (skQ (sgIm w h kd r) so p m q s).1)), some (.int (skQ (sgIm w h kd r) so p m q s).2.1), some (.int (skQ (sgIm w h kd r) so p m q s).2.2.1), some (.int (skQ (sgIm w h kd r) so p m q s).2.2.2), some (.int p), some (.int q8), o12] [] S F2 I2 J P) → mhV l K mX7_images kc ks Φ 75 [some (.ref 21), some (.int x), some (.int y), some (.int so), some (.int g), some (.int what), some (.int (nI s.1)), some (.int s.2.1), some (.int s.2.2.1), some (.int s.2.2.2), some (.int p), some (.int q), o12] [] S F I J P := by
  intro m
  induction m with
  | zero =>
    intro q F I s o12 hq hq1 hm hs hH hp hΦ
    have e0 : nI 0 = (0 : Int32) := rfl
    rw [e0] at hq
    refine mh_iload_11 dX7_images_75 (q := 77) rfl ?_
    refine mh_iload_4 dX7_images_77 (q := 79) rfl ?_
    refine mh_icmp_gt dX7_images_79 (tgt := 161) (q := 82) rfl rfl (fun _ => ?_) (fun hh => absurd (show g < q by grind) hh)
    exact hΦ F I _ _ frM.rf
  | succ m ih =>
    intro q F I s o12 hq hq1 hm hs hH hp hΦ
    have e1 : nI (m + 1) = nI m + 1 := (nI_1 m).symm
    have e2 : (0 : Int32) ≤ nI m := nI_pos' (by omega)
    have e3 : nI m ≤ nI 48 := (nI_leI (by omega) (by decide)).mpr (by omega)
    rw [show nI 48 = (48 : Int32) from rfl] at e3
    rw [e1] at hq
    have hqg : q ≤ g := by grind
    rw [show skQ (sgIm w h kd r) so p (m + 1) q s = skQ (sgIm w h kd r) so p m (q + 1) (skS (sgIm w h kd r) so p q s) from rfl] at hΦ
    have h9 := ih (q + 1)
    have hsc := skS_c (im := sgIm w h kd r) (so := so) (p := p) (q := q) (s := s)
    refine mh_iload_11 dX7_images_75 (q := 77) rfl ?_
    refine mh_iload_4 dX7_images_77 (q := 79) rfl ?_
    refine mh_icmp_gt dX7_images_79 (tgt := 161) (q := 82) rfl rfl (fun hh => absurd hh (show ¬ g < q from Int32.not_lt.mpr hqg)) (fun _ => ?_)
    refine mh_iload_10 dX7_images_82 (q := 84) rfl ?_
    refine mh_if_ne dX7_images_84 (tgt := 92) (q := 87) rfl rfl (fun c34 => ?_) (fun c34 => ?_)
    · skip
      refine mh_aload_0 dX7_images_92 (q := 93) rfl ?_
      refine mh_iload_1 dX7_images_93 (q := 94) rfl ?_
      refine mh_iload_2 dX7_images_94 (q := 95) rfl ?_
      refine mh_iload_10 dX7_images_95 (q := 97) rfl ?_
      refine mh_iload_11 dX7_images_97 (q := 99) rfl ?_
      refine mh_callV4 ca_X7_images_99 (shX7_0 h7) (q := 102) rfl (by simp [Value.category]) ⟨Nat.zero_le _, Nat.zero_le _⟩ ?_
      rw [ex, ey]
      refine sp_X7_imageOf h7 hH hp hr ⟨⟨by grind, by grind⟩, by grind, by grind⟩ (fun F2 I2 w2 => ?_)
      rw [← ex, ← ey]
      refine mh_iload_3 dX7_images_102 (q := 103) rfl ?_
      refine mh_icmp_eq dX7_images_103 (tgt := 109) (q := 106) rfl rfl (fun c53 => ?_) (fun c53 => ?_)
      · skip
        refine mh_iload_10 dX7_images_109 (q := 111) rfl ?_
        refine mh_iload_10 dX7_images_111 (q := 113) rfl ?_
        refine mh_imul dX7_images_113 (q := 114) rfl ?_
        refine mh_iload_10 dX7_images_114 (q := 116) rfl ?_
        refine mh_iload_11 dX7_images_116 (q := 118) rfl ?_
        refine mh_imul dX7_images_118 (q := 119) rfl ?_
        refine mh_iadd dX7_images_119 (q := 120) rfl ?_
        refine mh_iload_11 dX7_images_120 (q := 122) rfl ?_
        refine mh_iload_11 dX7_images_122 (q := 124) rfl ?_
        refine mh_imul dX7_images_124 (q := 125) rfl ?_
        refine mh_iadd dX7_images_125 (q := 126) rfl ?_
        refine mh_istore_12 dX7_images_126 (q := 128) rfl ?_
        refine mh_iload_6 dX7_images_128 (q := 130) rfl ?_
        refine mh_if_eq dX7_images_130 (tgt := 140) (q := 133) rfl rfl (fun c82 => ?_) (fun c82 => ?_)
        · skip
          refine mh_iload_12 dX7_images_140 (q := 142) rfl ?_
          refine mh_istore_7 dX7_images_142 (q := 144) rfl ?_
          refine mh_iload_10 dX7_images_144 (q := 146) rfl ?_
          refine mh_istore_8 dX7_images_146 (q := 148) rfl ?_
          refine mh_iload_11 dX7_images_148 (q := 150) rfl ?_
          refine mh_istore_9 dX7_images_150 (q := 152) rfl ?_
          refine mh_iinc_6 (v := 1) dX7_images_152 (q := 155) rfl (by decide) ?_
          refine mh_iinc_11 (v := 1) dX7_images_155 (q := 158) rfl (by decide) ?_
          refine mh_goto dX7_images_158 (tgt := 75) rfl ?_
          have hnz : ¬ ((p = 0 ∧ q = 0) ∨ ¬ sgIm w h kd r p q = so) := fun e => e.elim (fun z => c34 z.1) (fun z => z c53)
          rw [show (0 : Int32) = nI 0 from rfl, nI_eq (by omega) (by decide)] at c82
          have es : skS (sgIm w h kd r) so p q s = (s.1 + 1, p * p + p * q + q * q, p, q) := by
            unfold skS
            rw [if_neg hnz, if_pos (Or.inl c82)]
          rw [es] at hΦ
          rw [show nI s.1 + 1 = nI (s.1 + 1) from nI_1 _]
          exact h9 F2 I2 (s.1 + 1, p * p + p * q + q * q, p, q) _ (by grind) (by grind) (by omega) (by dsimp only; omega) (hH.fr w2) (hp.fr w2) (fun F3 I3 q8 o8 u2 => hΦ F3 I3 q8 o8 (w2.tr u2))
        · skip
          refine mh_iload_12 dX7_images_133 (q := 135) rfl ?_
          refine mh_iload_7 dX7_images_135 (q := 137) rfl ?_
          refine mh_icmp_ge dX7_images_137 (tgt := 152) (q := 140) rfl rfl (fun c89 => ?_) (fun c89 => ?_)
          · skip
            refine mh_iinc_6 (v := 1) dX7_images_152 (q := 155) rfl (by decide) ?_
            refine mh_iinc_11 (v := 1) dX7_images_155 (q := 158) rfl (by decide) ?_
            refine mh_goto dX7_images_158 (tgt := 75) rfl ?_
            have hnz : ¬ ((p = 0 ∧ q = 0) ∨ ¬ sgIm w h kd r p q = so) := fun e => e.elim (fun z => c34 z.1) (fun z => z c53)
            rw [show (0 : Int32) = nI 0 from rfl, nI_eq (by omega) (by decide)] at c82
            have es : skS (sgIm w h kd r) so p q s = (s.1 + 1, s.2) := by
              unfold skS
              rw [if_neg hnz, if_neg (fun e => e.elim c82 (fun z => absurd z (Int32.not_lt.mpr c89)))]
            rw [es] at hΦ
            rw [show nI s.1 + 1 = nI (s.1 + 1) from nI_1 _]
            exact h9 F2 I2 (s.1 + 1, s.2) _ (by grind) (by grind) (by omega) (by dsimp only; omega) (hH.fr w2) (hp.fr w2) (fun F3 I3 q8 o8 u2 => hΦ F3 I3 q8 o8 (w2.tr u2))
          · skip
            refine mh_iload_12 dX7_images_140 (q := 142) rfl ?_
            refine mh_istore_7 dX7_images_142 (q := 144) rfl ?_
            refine mh_iload_10 dX7_images_144 (q := 146) rfl ?_
            refine mh_istore_8 dX7_images_146 (q := 148) rfl ?_
            refine mh_iload_11 dX7_images_148 (q := 150) rfl ?_
            refine mh_istore_9 dX7_images_150 (q := 152) rfl ?_
            refine mh_iinc_6 (v := 1) dX7_images_152 (q := 155) rfl (by decide) ?_
            refine mh_iinc_11 (v := 1) dX7_images_155 (q := 158) rfl (by decide) ?_
            refine mh_goto dX7_images_158 (tgt := 75) rfl ?_
            have hnz : ¬ ((p = 0 ∧ q = 0) ∨ ¬ sgIm w h kd r p q = so) := fun e => e.elim (fun z => c34 z.1) (fun z => z c53)
            rw [show (0 : Int32) = nI 0 from rfl, nI_eq (by omega) (by decide)] at c82
            have es : skS (sgIm w h kd r) so p q s = (s.1 + 1, p * p + p * q + q * q, p, q) := by
              unfold skS
              rw [if_neg hnz, if_pos (Or.inr (Int32.not_le.mp c89))]
            rw [es] at hΦ
            rw [show nI s.1 + 1 = nI (s.1 + 1) from nI_1 _]
            exact h9 F2 I2 (s.1 + 1, p * p + p * q + q * q, p, q) _ (by grind) (by grind) (by omega) (by dsimp only; omega) (hH.fr w2) (hp.fr w2) (fun F3 I3 q8 o8 u2 => hΦ F3 I3 q8 o8 (w2.tr u2))
      · skip
        refine mh_goto dX7_images_106 (tgt := 155) rfl ?_
        refine mh_iinc_11 (v := 1) dX7_images_155 (q := 158) rfl (by decide) ?_
        refine mh_goto dX7_images_158 (tgt := 75) rfl ?_
        have es : skS (sgIm w h kd r) so p q s = s := by unfold skS; rw [if_pos (Or.inr c53)]
        rw [es] at hΦ
        exact h9 F2 I2 s _ (by grind) (by grind) (by omega) (by omega) (hH.fr w2) (hp.fr w2) (fun F3 I3 q8 o8 u2 => hΦ F3 I3 q8 o8 (w2.tr u2))
    · skip
      refine mh_iload_11 dX7_images_87 (q := 89) rfl ?_
      refine mh_if_eq dX7_images_89 (tgt := 155) (q := 92) rfl rfl (fun c39 => ?_) (fun c39 => ?_)
      · skip
        refine mh_iinc_11 (v := 1) dX7_images_155 (q := 158) rfl (by decide) ?_
        refine mh_goto dX7_images_158 (tgt := 75) rfl ?_
        have es : skS (sgIm w h kd r) so p q s = s := by unfold skS; rw [if_pos (Or.inl ⟨c34, c39⟩)]
        rw [es] at hΦ
        exact h9 F I s _ (by grind) (by grind) (by omega) (by omega) hH hp hΦ
      · skip
        refine mh_aload_0 dX7_images_92 (q := 93) rfl ?_
        refine mh_iload_1 dX7_images_93 (q := 94) rfl ?_
        refine mh_iload_2 dX7_images_94 (q := 95) rfl ?_
        refine mh_iload_10 dX7_images_95 (q := 97) rfl ?_
        refine mh_iload_11 dX7_images_97 (q := 99) rfl ?_
        refine mh_callV4 ca_X7_images_99 (shX7_0 h7) (q := 102) rfl (by simp [Value.category]) ⟨Nat.zero_le _, Nat.zero_le _⟩ ?_
        rw [ex, ey]
        refine sp_X7_imageOf h7 hH hp hr ⟨⟨by grind, by grind⟩, by grind, by grind⟩ (fun F2 I2 w2 => ?_)
        rw [← ex, ← ey]
        refine mh_iload_3 dX7_images_102 (q := 103) rfl ?_
        refine mh_icmp_eq dX7_images_103 (tgt := 109) (q := 106) rfl rfl (fun c53 => ?_) (fun c53 => ?_)
        · skip
          refine mh_iload_10 dX7_images_109 (q := 111) rfl ?_
          refine mh_iload_10 dX7_images_111 (q := 113) rfl ?_
          refine mh_imul dX7_images_113 (q := 114) rfl ?_
          refine mh_iload_10 dX7_images_114 (q := 116) rfl ?_
          refine mh_iload_11 dX7_images_116 (q := 118) rfl ?_
          refine mh_imul dX7_images_118 (q := 119) rfl ?_
          refine mh_iadd dX7_images_119 (q := 120) rfl ?_
          refine mh_iload_11 dX7_images_120 (q := 122) rfl ?_
          refine mh_iload_11 dX7_images_122 (q := 124) rfl ?_
          refine mh_imul dX7_images_124 (q := 125) rfl ?_
          refine mh_iadd dX7_images_125 (q := 126) rfl ?_
          refine mh_istore_12 dX7_images_126 (q := 128) rfl ?_
          refine mh_iload_6 dX7_images_128 (q := 130) rfl ?_
          refine mh_if_eq dX7_images_130 (tgt := 140) (q := 133) rfl rfl (fun c82 => ?_) (fun c82 => ?_)
          · skip
            refine mh_iload_12 dX7_images_140 (q := 142) rfl ?_
            refine mh_istore_7 dX7_images_142 (q := 144) rfl ?_
            refine mh_iload_10 dX7_images_144 (q := 146) rfl ?_
            refine mh_istore_8 dX7_images_146 (q := 148) rfl ?_
            refine mh_iload_11 dX7_images_148 (q := 150) rfl ?_
            refine mh_istore_9 dX7_images_150 (q := 152) rfl ?_
            refine mh_iinc_6 (v := 1) dX7_images_152 (q := 155) rfl (by decide) ?_
            refine mh_iinc_11 (v := 1) dX7_images_155 (q := 158) rfl (by decide) ?_
            refine mh_goto dX7_images_158 (tgt := 75) rfl ?_
            have hnz : ¬ ((p = 0 ∧ q = 0) ∨ ¬ sgIm w h kd r p q = so) := fun e => e.elim (fun z => c39 z.2) (fun z => z c53)
            rw [show (0 : Int32) = nI 0 from rfl, nI_eq (by omega) (by decide)] at c82
            have es : skS (sgIm w h kd r) so p q s = (s.1 + 1, p * p + p * q + q * q, p, q) := by
              unfold skS
              rw [if_neg hnz, if_pos (Or.inl c82)]
            rw [es] at hΦ
            rw [show nI s.1 + 1 = nI (s.1 + 1) from nI_1 _]
            exact h9 F2 I2 (s.1 + 1, p * p + p * q + q * q, p, q) _ (by grind) (by grind) (by omega) (by dsimp only; omega) (hH.fr w2) (hp.fr w2) (fun F3 I3 q8 o8 u2 => hΦ F3 I3 q8 o8 (w2.tr u2))
          · skip
            refine mh_iload_12 dX7_images_133 (q := 135) rfl ?_
            refine mh_iload_7 dX7_images_135 (q := 137) rfl ?_
            refine mh_icmp_ge dX7_images_137 (tgt := 152) (q := 140) rfl rfl (fun c89 => ?_) (fun c89 => ?_)
            · skip
              refine mh_iinc_6 (v := 1) dX7_images_152 (q := 155) rfl (by decide) ?_
              refine mh_iinc_11 (v := 1) dX7_images_155 (q := 158) rfl (by decide) ?_
              refine mh_goto dX7_images_158 (tgt := 75) rfl ?_
              have hnz : ¬ ((p = 0 ∧ q = 0) ∨ ¬ sgIm w h kd r p q = so) := fun e => e.elim (fun z => c39 z.2) (fun z => z c53)
              rw [show (0 : Int32) = nI 0 from rfl, nI_eq (by omega) (by decide)] at c82
              have es : skS (sgIm w h kd r) so p q s = (s.1 + 1, s.2) := by
                unfold skS
                rw [if_neg hnz, if_neg (fun e => e.elim c82 (fun z => absurd z (Int32.not_lt.mpr c89)))]
              rw [es] at hΦ
              rw [show nI s.1 + 1 = nI (s.1 + 1) from nI_1 _]
              exact h9 F2 I2 (s.1 + 1, s.2) _ (by grind) (by grind) (by omega) (by dsimp only; omega) (hH.fr w2) (hp.fr w2) (fun F3 I3 q8 o8 u2 => hΦ F3 I3 q8 o8 (w2.tr u2))
            · skip
              refine mh_iload_12 dX7_images_140 (q := 142) rfl ?_
              refine mh_istore_7 dX7_images_142 (q := 144) rfl ?_
              refine mh_iload_10 dX7_images_144 (q := 146) rfl ?_
              refine mh_istore_8 dX7_images_146 (q := 148) rfl ?_
              refine mh_iload_11 dX7_images_148 (q := 150) rfl ?_
              refine mh_istore_9 dX7_images_150 (q := 152) rfl ?_
              refine mh_iinc_6 (v := 1) dX7_images_152 (q := 155) rfl (by decide) ?_
              refine mh_iinc_11 (v := 1) dX7_images_155 (q := 158) rfl (by decide) ?_
              refine mh_goto dX7_images_158 (tgt := 75) rfl ?_
              have hnz : ¬ ((p = 0 ∧ q = 0) ∨ ¬ sgIm w h kd r p q = so) := fun e => e.elim (fun z => c39 z.2) (fun z => z c53)
              rw [show (0 : Int32) = nI 0 from rfl, nI_eq (by omega) (by decide)] at c82
              have es : skS (sgIm w h kd r) so p q s = (s.1 + 1, p * p + p * q + q * q, p, q) := by
                unfold skS
                rw [if_neg hnz, if_pos (Or.inr (Int32.not_le.mp c89))]
              rw [es] at hΦ
              rw [show nI s.1 + 1 = nI (s.1 + 1) from nI_1 _]
              exact h9 F2 I2 (s.1 + 1, p * p + p * q + q * q, p, q) _ (by grind) (by grind) (by omega) (by dsimp only; omega) (hH.fr w2) (hp.fr w2) (fun F3 I3 q8 o8 u2 => hΦ F3 I3 q8 o8 (w2.tr u2))
        · skip
          refine mh_goto dX7_images_106 (tgt := 155) rfl ?_
          refine mh_iinc_11 (v := 1) dX7_images_155 (q := 158) rfl (by decide) ?_
          refine mh_goto dX7_images_158 (tgt := 75) rfl ?_
          have es : skS (sgIm w h kd r) so p q s = s := by unfold skS; rw [if_pos (Or.inr c53)]
          rw [es] at hΦ
          exact h9 F2 I2 s _ (by grind) (by grind) (by omega) (by omega) (hH.fr w2) (hp.fr w2) (fun F3 I3 q8 o8 u2 => hΦ F3 I3 q8 o8 (w2.tr u2))
set_option maxHeartbeats 4000000 in
set_option maxRecDepth 100000 in
theorem lp_X7_seekP {l : Launch} {K : mhX} {kc ks : Nat} {Φ : mhQ} {S : List mhS} {J : mhJ} {P : mhP} (h7 : mhKX7 S) {w h j r : Nat} {kd : Nat → Int32} {x y so what : Int32} {gn : Nat} (ex : x = nI j) (ey : y = nI r) (hr : r < gRooms w h) (hg1 : 1 ≤ gn) (hg2 : gn ≤ 24) : ∀ (m : Nat) (p : Int32) (F : mhF) (I : mhI) (s : Nat × Int32 × Int32 × Int32) (o11 o12 : Option Value), p + nI m = nI gn + 1 → -24 ≤ p → m ≤ 49 → s.1 + 49 * m ≤ 2500 → mhHm I j w h → mhKn I j w h kd → (∀ (F2 : mhF) (I2 : mhI), frM F I F2 I2 → Φ (some (.int (mhImR what (skP (sgIm w h kd r) so (-nI gn) (2 * gn + 1) m p s)))) S F2 I2 J P) → mhV l K mX7_images kc ks Φ 63 [some (.ref 21), some (.int x), some (.int y), some (.int so), some (.int (nI gn)), some (.int what), some (.int (nI s.1)), some (.int s.2.1), some (.int s.2.2.1), some (.int s.2.2.2), some (.int p), o11, o12] [] S F I J P := by
  have g1 : (1 : Int32) ≤ nI gn := by rw [show (1 : Int32) = nI 1 from rfl, nI_leI (by decide) (by omega)]; exact hg1
  have g2 : nI gn ≤ (24 : Int32) := by rw [show (24 : Int32) = nI 24 from rfl, nI_leI (by omega) (by decide)]; exact hg2
  intro m
  induction m with
  | zero =>
    intro p F I s o11 o12 hq hq1 hm hs hH hp hΦ
    have e0 : nI 0 = (0 : Int32) := rfl
    rw [e0] at hq
    refine mh_iload_10 dX7_images_63 (q := 65) rfl ?_
    refine mh_iload_4 dX7_images_65 (q := 67) rfl ?_
    refine mh_icmp_gt dX7_images_67 (tgt := 167) (q := 70) rfl rfl (fun _ => ?_) (fun hh => absurd (show nI gn < p by grind) hh)
    refine mh_iload_5 dX7_images_167 (q := 169) rfl ?_
    refine mh_if_ne dX7_images_169 (tgt := 177) (q := 172) rfl rfl (fun c169 => ?_) (fun c169 => ?_)
    · skip
      refine mh_iload_5 dX7_images_177 (q := 179) rfl ?_
      refine mh_iconst_1 dX7_images_179 (q := 180) rfl ?_
      refine mh_icmp_ne dX7_images_180 (tgt := 188) (q := 183) rfl rfl (fun c180 => ?_) (fun c180 => ?_)
      · skip
        refine mh_iload_9 dX7_images_188 (q := 190) rfl ?_
        refine mh_ireturn dX7_images_190 rfl rfl ?_
        exact mh_cl (hΦ F I frM.rf) (by grind [mhImR, skP])
      · skip
        refine mh_iload_8 dX7_images_183 (q := 185) rfl ?_
        refine mh_goto dX7_images_185 (tgt := 190) rfl ?_
        refine mh_ireturn dX7_images_190 rfl rfl ?_
        exact mh_cl (hΦ F I frM.rf) (by grind [mhImR, skP])
    · skip
      refine mh_iload_6 dX7_images_172 (q := 174) rfl ?_
      refine mh_goto dX7_images_174 (tgt := 190) rfl ?_
      refine mh_ireturn dX7_images_190 rfl rfl ?_
      exact mh_cl (hΦ F I frM.rf) (by grind [mhImR, skP])
  | succ m ih =>
    intro p F I s o11 o12 hq hq1 hm hs hH hp hΦ
    have e1 : nI (m + 1) = nI m + 1 := (nI_1 m).symm
    have e2 : (0 : Int32) ≤ nI m := nI_pos' (by omega)
    have e3 : nI m ≤ nI 48 := (nI_leI (by omega) (by decide)).mpr (by omega)
    rw [show nI 48 = (48 : Int32) from rfl] at e3
    rw [e1] at hq
    have hqg : p ≤ nI gn := by grind
    refine mh_iload_10 dX7_images_63 (q := 65) rfl ?_
    refine mh_iload_4 dX7_images_65 (q := 67) rfl ?_
    refine mh_icmp_gt dX7_images_67 (tgt := 167) (q := 70) rfl rfl (fun hh => absurd hh (show ¬ nI gn < p from Int32.not_lt.mpr hqg)) (fun _ => ?_)
    refine mh_iload_4 dX7_images_70 (q := 72) rfl ?_
    refine mh_ineg dX7_images_72 (q := 73) rfl ?_
    refine mh_istore_11 dX7_images_73 (q := 75) rfl ?_
    have eg : -nI gn + nI (2 * gn + 1) = nI gn + 1 := by
      have t : nI (2 * gn + 1) = nI gn + nI gn + 1 := by rw [nI_add, nI_1]; exact congrArg nI (by omega)
      rw [t]; grind
    refine lp_X7_seekQ h7 ex ey hr g1 g2 (by grind) (by grind) (2 * gn + 1) (-nI gn) F I s _ eg (by grind) (by omega) (by omega) hH hp (fun F2 I2 q8 o8 u2 => ?_)
    have hc := skQ_c (im := sgIm w h kd r) (so := so) (p := p) (n := 2 * gn + 1) (q := -nI gn) (s := s)
    refine mh_iinc_10 (v := 1) dX7_images_161 (q := 164) rfl (by decide) ?_
    refine mh_goto dX7_images_164 (tgt := 63) rfl ?_
    exact ih (p + 1) F2 I2 _ _ _ (by grind) (by grind) (by omega) (by omega) (hH.fr u2) (hp.fr u2) (fun F3 I3 t2 => hΦ F3 I3 (u2.tr t2))
def mhIaA (g what : Int32) : Prop := (1 ≤ g ∧ g ≤ 24) ∧ (0 ≤ what ∧ what ≤ 2)
theorem mh_n24 {n : Int32} (h : 1 ≤ n ∧ n ≤ 24) : ∃ k, 1 ≤ k ∧ k ≤ 24 ∧ n = nI k := by
  obtain ⟨k, hk, e⟩ := mh_of2 (n := 24) (M := 24) rfl (by grind) h.2
  refine ⟨k, ?_, by omega, e⟩
  rw [e, show (1 : Int32) = nI 1 from rfl, nI_leI (by decide) (by omega)] at h
  exact h.1
set_option maxHeartbeats 4000000 in
set_option maxRecDepth 100000 in
theorem sp_X6_images {l : Launch} {K : mhX} {Φ : mhQ} {S : List mhS} {F : mhF} {I : mhI} {J : mhJ} {P : mhP} (h4 : mhKX4 S) {nh : Nat} {wd hg aH : Nat → Nat} (hC : mhHC S F I P nh wd hg aH) {kd : Nat → Nat → Int32} (hK : ∀ j, j < nh → mhPn I (aH j) (wd j) (hg j) (kd j)) {x y z g what : Int32} (hn : ¬ (vHR nh wd hg x y ∧ vHR nh wd hg x z) → Φ (some (.int (-1))) S F I J P) (hb : vHR nh wd hg x y ∧ vHR nh wd hg x z → ¬ mhIaA g what → Φ (some (.int (-2))) S F I J P) (ht : ∀ j r r2 gn, j < nh → r < gRooms (wd j) (hg j) → r2 < gRooms (wd j) (hg j) → 1 ≤ gn → gn ≤ 24 → x = nI j → y = nI r → z = nI r2 → g = nI gn → mhIaA g what → ∀ (F2 : mhF) (I2 : mhI), frS F I F2 I2 → Φ (some (.int (mhImR what (skA (sgIm (wd j) (hg j) (kd j) r) z gn)))) S F2 I2 J P) : mhOk l K mX6_images [.ref 0, .int x, .int y, .int z, .int g, .int what] S F I J P Φ := by
  refine mhOk.of (by decide) (by decide) rfl (Nat.le_of_ble_eq_true rfl) ?_
  refine mh_aload_0 dX6_images_0 (q := 1) rfl ?_
  refine mh_iload_1 dX6_images_1 (q := 2) rfl ?_
  refine mh_callV1 ca_X6_images_2 (shX6_0 hC.1) (q := 5) rfl (by simp [Value.category]) ⟨Nat.zero_le _, Nat.zero_le _⟩ ?_
  refine sp_X6_houseAt hC (fun hk => ?_) (fun j hj ej => ?_)
  · skip
    refine mh_astoreN_6 dX6_images_5 (q := 7) rfl ?_
    refine mh_aloadN_6 dX6_images_7 (q := 9) rfl ?_
    refine mh_ifnullN dX6_images_9 (tgt := 30) rfl ?_
    refine mh_iconst_m1 dX6_images_30 (q := 31) rfl ?_
    refine mh_ireturn dX6_images_31 rfl rfl ?_
    refine hn (fun z => ?_)
    obtain ⟨⟨i, hi, e, e1⟩, ⟨i2, hi2, e2, e3⟩⟩ := z
    first
    | exact hk ⟨i, hi, e⟩
    | (have e4 : j = i := (nI_eq (by have := hC.2.1; omega) (by have := hC.2.1; omega)).mp e
       subst e4
       exact hk e1)
    | (have e4 : j = i2 := (nI_eq (by have := hC.2.1; omega) (by have := hC.2.1; omega)).mp e2
       subst e4
       exact hk e3)
    | exact hk ⟨i, hi, e, e1⟩
    | exact hk ⟨i2, hi2, e2, e3⟩
  · skip
    subst ej
    refine mh_astore_6 dX6_images_5 (q := 7) rfl ?_
    refine mh_aload_6 dX6_images_7 (q := 9) rfl ?_
    refine mh_ifnullR dX6_images_9 (q := 12) rfl ?_
    refine mh_aload_6 dX6_images_12 (q := 14) rfl ?_
    refine mh_iload_2 dX6_images_14 (q := 15) rfl ?_
    refine mh_callV1 ca_X6_images_15 (shX1_0 (hC.2.2.2 j hj).2.1) (q := 18) rfl (by simp [Value.category]) ⟨Nat.zero_le _, Nat.zero_le _⟩ ?_
    refine sp_X1_hasRoom (hC.2.2.2 j hj).2 (fun r hr er => ?_) (fun hk => ?_)
    · skip
      subst er
      refine mh_if_eq dX6_images_18 (tgt := 30) (q := 21) rfl rfl (fun hh => False.elim (by revert hh; decide)) (fun _ => ?_)
      refine mh_aload_6 dX6_images_21 (q := 23) rfl ?_
      refine mh_iload_3 dX6_images_23 (q := 24) rfl ?_
      refine mh_callV1 ca_X6_images_24 (shX1_0 (hC.2.2.2 j hj).2.1) (q := 27) rfl (by simp [Value.category]) ⟨Nat.zero_le _, Nat.zero_le _⟩ ?_
      refine sp_X1_hasRoom (hC.2.2.2 j hj).2 (fun r2 hr2 er2 => ?_) (fun hk => ?_)
      · skip
        subst er2
        refine mh_if_ne dX6_images_27 (tgt := 32) (q := 30) rfl rfl (fun _ => ?_) (fun hh => False.elim (by revert hh; decide))
        refine mh_iload_4 dX6_images_32 (q := 34) rfl ?_
        refine mh_iconst_1 dX6_images_34 (q := 35) rfl ?_
        refine mh_bipush (v := 24) dX6_images_35 (q := 37) rfl (by decide) ?_
        refine mh_callS3 ca_X6_images_37 (q := 40) rfl (by simp [Value.category]) ⟨Nat.zero_le _, Nat.zero_le _⟩ ?_
        refine sp_X6_within (fun ca => ?_) (fun ca => ?_)
        · skip
          refine mh_if_eq dX6_images_40 (tgt := 53) (q := 43) rfl rfl (fun hh => False.elim (by revert hh; decide)) (fun _ => ?_)
          refine mh_iload_5 dX6_images_43 (q := 45) rfl ?_
          refine mh_iconst_0 dX6_images_45 (q := 46) rfl ?_
          refine mh_iconst_2 dX6_images_46 (q := 47) rfl ?_
          refine mh_callS3 ca_X6_images_47 (q := 50) rfl (by simp [Value.category]) ⟨Nat.zero_le _, Nat.zero_le _⟩ ?_
          refine sp_X6_within (fun cb => ?_) (fun cb => ?_)
          · skip
            refine mh_if_ne dX6_images_50 (tgt := 56) (q := 53) rfl rfl (fun _ => ?_) (fun hh => False.elim (by revert hh; decide))
            refine mh_aload_0 dX6_images_56 (q := 57) rfl ?_
            refine mh_getR fl_X6_42 dX6_images_57 (q := 60) rfl (shX6_0 hC.1) rfl ?_
            refine mh_aload_6 dX6_images_60 (q := 62) rfl ?_
            refine mh_iload_2 dX6_images_62 (q := 63) rfl ?_
            refine mh_iload_3 dX6_images_63 (q := 64) rfl ?_
            refine mh_iload_4 dX6_images_64 (q := 66) rfl ?_
            refine mh_callV4 ca_X6_images_66 (shX4_0 h4) (q := 69) rfl (by simp [Value.category]) ⟨Nat.zero_le _, Nat.zero_le _⟩ ?_
            obtain ⟨gn, hg1, hg2, rfl⟩ := mh_n24 ca
            refine sp_X4_seek h4 (hC.2.2.2 j hj).2 (hK j hj) hr hg1 hg2 (fun F2 I2 u1 u2 => ?_)
            refine mh_iload_5 dX6_images_69 (q := 71) rfl ?_
            by_cases cw_0 : what = 0
            · refine mh_lsw dX6_images_71 (off := 25) (tgt := 96) (by decide) (by rw [cw_0]; decide) rfl ?_
              refine mh_aload_0 dX6_images_96 (q := 97) rfl ?_
              refine mh_getR fl_X6_42 dX6_images_97 (q := 100) rfl (shX6_0 hC.1) rfl ?_
              refine mh_getI fl_X6_199 dX6_images_100 (q := 103) rfl (shX4_0 h4) rfl ?_
              refine mh_ireturn dX6_images_103 rfl rfl ?_
              have h0 := skP_0 (im := sgIm (wd j) (hg j) (kd j) r) (so := nI r2) (mg := -nI gn) (k := 2 * gn + 1) (n := 2 * gn + 1) (p := -nI gn) (s := (0, 0, -9, -9)) (fun _ => rfl)
              have hc := skP_c (im := sgIm (wd j) (hg j) (kd j) r) (so := nI r2) (mg := -nI gn) (k := 2 * gn + 1) (n := 2 * gn + 1) (p := -nI gn) (s := (0, 0, -9, -9))
              have hc2 : (2 * gn + 1) * (2 * gn + 1) ≤ 49 * 49 := Nat.mul_le_mul (by omega) (by omega)
              have hx := ht j r r2 gn hj hr hr2 hg1 hg2 rfl rfl rfl rfl ⟨ca, cb⟩ F2 I2 u2
              unfold skR skA at u1
              unfold skA at hx
              generalize skP _ _ _ _ _ _ _ = z at *
              obtain ⟨z1, z2, z3, z4⟩ := z
              dsimp only at u1 h0 hc
              have hq : (nI z1 = 0 ↔ z1 = 0) := by rw [show (0 : Int32) = nI 0 from rfl, nI_eq (by omega) (by decide)]
              refine mh_cl hx ?_
              grind [mhImR]
            by_cases cw_1 : what = 1
            · refine mh_lsw dX6_images_71 (off := 33) (tgt := 104) (by decide) (by rw [cw_1]; decide) rfl ?_
              refine mh_aload_0 dX6_images_104 (q := 105) rfl ?_
              refine mh_getR fl_X6_42 dX6_images_105 (q := 108) rfl (shX6_0 hC.1) rfl ?_
              refine mh_getI fl_X6_199 dX6_images_108 (q := 111) rfl (shX4_0 h4) rfl ?_
              refine mh_if_ne dX6_images_111 (tgt := 119) (q := 114) rfl rfl (fun cz => ?_) (fun cz => ?_)
              · skip
                refine mh_aload_0 dX6_images_119 (q := 120) rfl ?_
                refine mh_getR fl_X6_42 dX6_images_120 (q := 123) rfl (shX6_0 hC.1) rfl ?_
                refine mh_getI fl_X6_202 dX6_images_123 (q := 126) rfl (shX4_0 h4) rfl ?_
                refine mh_ireturn dX6_images_126 rfl rfl ?_
                have h0 := skP_0 (im := sgIm (wd j) (hg j) (kd j) r) (so := nI r2) (mg := -nI gn) (k := 2 * gn + 1) (n := 2 * gn + 1) (p := -nI gn) (s := (0, 0, -9, -9)) (fun _ => rfl)
                have hc := skP_c (im := sgIm (wd j) (hg j) (kd j) r) (so := nI r2) (mg := -nI gn) (k := 2 * gn + 1) (n := 2 * gn + 1) (p := -nI gn) (s := (0, 0, -9, -9))
                have hc2 : (2 * gn + 1) * (2 * gn + 1) ≤ 49 * 49 := Nat.mul_le_mul (by omega) (by omega)
                have hx := ht j r r2 gn hj hr hr2 hg1 hg2 rfl rfl rfl rfl ⟨ca, cb⟩ F2 I2 u2
                unfold skR skA at u1
                unfold skA at hx
                generalize skP _ _ _ _ _ _ _ = z at *
                obtain ⟨z1, z2, z3, z4⟩ := z
                dsimp only at u1 h0 hc
                have hq : (nI z1 = 0 ↔ z1 = 0) := by rw [show (0 : Int32) = nI 0 from rfl, nI_eq (by omega) (by decide)]
                refine mh_cl hx ?_
                grind [mhImR]
              · skip
                refine mh_bipush (v := (-9)) dX6_images_114 (q := 116) rfl (by decide) ?_
                refine mh_goto dX6_images_116 (tgt := 126) rfl ?_
                refine mh_ireturn dX6_images_126 rfl rfl ?_
                have h0 := skP_0 (im := sgIm (wd j) (hg j) (kd j) r) (so := nI r2) (mg := -nI gn) (k := 2 * gn + 1) (n := 2 * gn + 1) (p := -nI gn) (s := (0, 0, -9, -9)) (fun _ => rfl)
                have hc := skP_c (im := sgIm (wd j) (hg j) (kd j) r) (so := nI r2) (mg := -nI gn) (k := 2 * gn + 1) (n := 2 * gn + 1) (p := -nI gn) (s := (0, 0, -9, -9))
                have hc2 : (2 * gn + 1) * (2 * gn + 1) ≤ 49 * 49 := Nat.mul_le_mul (by omega) (by omega)
                have hx := ht j r r2 gn hj hr hr2 hg1 hg2 rfl rfl rfl rfl ⟨ca, cb⟩ F2 I2 u2
                unfold skR skA at u1
                unfold skA at hx
                generalize skP _ _ _ _ _ _ _ = z at *
                obtain ⟨z1, z2, z3, z4⟩ := z
                dsimp only at u1 h0 hc
                have hq : (nI z1 = 0 ↔ z1 = 0) := by rw [show (0 : Int32) = nI 0 from rfl, nI_eq (by omega) (by decide)]
                refine mh_cl hx ?_
                grind [mhImR]
            refine mh_lsw dX6_images_71 (off := 56) (tgt := 127) (by decide) (by have e0 : ¬ ((0 : Int) = Int32.toInt what) := fun e => cw_0 (Int32.toInt_inj.mp (e.symm.trans (by decide))); have e1 : ¬ ((1 : Int) = Int32.toInt what) := fun e => cw_1 (Int32.toInt_inj.mp (e.symm.trans (by decide))); simp [Op.lookupswitch.offset, e0, e1]) rfl ?_
            refine mh_aload_0 dX6_images_127 (q := 128) rfl ?_
            refine mh_getR fl_X6_42 dX6_images_128 (q := 131) rfl (shX6_0 hC.1) rfl ?_
            refine mh_getI fl_X6_199 dX6_images_131 (q := 134) rfl (shX4_0 h4) rfl ?_
            refine mh_if_ne dX6_images_134 (tgt := 142) (q := 137) rfl rfl (fun cz => ?_) (fun cz => ?_)
            · skip
              refine mh_aload_0 dX6_images_142 (q := 143) rfl ?_
              refine mh_getR fl_X6_42 dX6_images_143 (q := 146) rfl (shX6_0 hC.1) rfl ?_
              refine mh_getI fl_X6_205 dX6_images_146 (q := 149) rfl (shX4_0 h4) rfl ?_
              refine mh_ireturn dX6_images_149 rfl rfl ?_
              have h0 := skP_0 (im := sgIm (wd j) (hg j) (kd j) r) (so := nI r2) (mg := -nI gn) (k := 2 * gn + 1) (n := 2 * gn + 1) (p := -nI gn) (s := (0, 0, -9, -9)) (fun _ => rfl)
              have hc := skP_c (im := sgIm (wd j) (hg j) (kd j) r) (so := nI r2) (mg := -nI gn) (k := 2 * gn + 1) (n := 2 * gn + 1) (p := -nI gn) (s := (0, 0, -9, -9))
              have hc2 : (2 * gn + 1) * (2 * gn + 1) ≤ 49 * 49 := Nat.mul_le_mul (by omega) (by omega)
              have hx := ht j r r2 gn hj hr hr2 hg1 hg2 rfl rfl rfl rfl ⟨ca, cb⟩ F2 I2 u2
              unfold skR skA at u1
              unfold skA at hx
              generalize skP _ _ _ _ _ _ _ = z at *
              obtain ⟨z1, z2, z3, z4⟩ := z
              dsimp only at u1 h0 hc
              have hq : (nI z1 = 0 ↔ z1 = 0) := by rw [show (0 : Int32) = nI 0 from rfl, nI_eq (by omega) (by decide)]
              refine mh_cl hx ?_
              grind [mhImR]
            · skip
              refine mh_bipush (v := (-9)) dX6_images_137 (q := 139) rfl (by decide) ?_
              refine mh_goto dX6_images_139 (tgt := 149) rfl ?_
              refine mh_ireturn dX6_images_149 rfl rfl ?_
              have h0 := skP_0 (im := sgIm (wd j) (hg j) (kd j) r) (so := nI r2) (mg := -nI gn) (k := 2 * gn + 1) (n := 2 * gn + 1) (p := -nI gn) (s := (0, 0, -9, -9)) (fun _ => rfl)
              have hc := skP_c (im := sgIm (wd j) (hg j) (kd j) r) (so := nI r2) (mg := -nI gn) (k := 2 * gn + 1) (n := 2 * gn + 1) (p := -nI gn) (s := (0, 0, -9, -9))
              have hc2 : (2 * gn + 1) * (2 * gn + 1) ≤ 49 * 49 := Nat.mul_le_mul (by omega) (by omega)
              have hx := ht j r r2 gn hj hr hr2 hg1 hg2 rfl rfl rfl rfl ⟨ca, cb⟩ F2 I2 u2
              unfold skR skA at u1
              unfold skA at hx
              generalize skP _ _ _ _ _ _ _ = z at *
              obtain ⟨z1, z2, z3, z4⟩ := z
              dsimp only at u1 h0 hc
              have hq : (nI z1 = 0 ↔ z1 = 0) := by rw [show (0 : Int32) = nI 0 from rfl, nI_eq (by omega) (by decide)]
              refine mh_cl hx ?_
              grind [mhImR]
          · skip
            refine mh_if_ne dX6_images_50 (tgt := 56) (q := 53) rfl rfl (fun hh => False.elim (by revert hh; decide)) (fun _ => ?_)
            refine mh_bipush (v := (-2)) dX6_images_53 (q := 55) rfl (by decide) ?_
            refine mh_ireturn dX6_images_55 rfl rfl ?_
            exact hb ⟨⟨j, hj, rfl, r, hr, rfl⟩, ⟨j, hj, rfl, r2, hr2, rfl⟩⟩ (fun e => by first | exact ca e.1 | exact cb e.2)
        · skip
          refine mh_if_eq dX6_images_40 (tgt := 53) (q := 43) rfl rfl (fun _ => ?_) (fun hh => False.elim (by revert hh; decide))
          refine mh_bipush (v := (-2)) dX6_images_53 (q := 55) rfl (by decide) ?_
          refine mh_ireturn dX6_images_55 rfl rfl ?_
          exact hb ⟨⟨j, hj, rfl, r, hr, rfl⟩, ⟨j, hj, rfl, r2, hr2, rfl⟩⟩ (fun e => by first | exact ca e.1 | exact cb e.2)
      · skip
        refine mh_if_ne dX6_images_27 (tgt := 32) (q := 30) rfl rfl (fun hh => False.elim (by revert hh; decide)) (fun _ => ?_)
        refine mh_iconst_m1 dX6_images_30 (q := 31) rfl ?_
        refine mh_ireturn dX6_images_31 rfl rfl ?_
        refine hn (fun z => ?_)
        obtain ⟨⟨i, hi, e, e1⟩, ⟨i2, hi2, e2, e3⟩⟩ := z
        first
        | exact hk ⟨i, hi, e⟩
        | (have e4 : j = i := (nI_eq (by have := hC.2.1; omega) (by have := hC.2.1; omega)).mp e
           subst e4
           exact hk e1)
        | (have e4 : j = i2 := (nI_eq (by have := hC.2.1; omega) (by have := hC.2.1; omega)).mp e2
           subst e4
           exact hk e3)
        | exact hk ⟨i, hi, e, e1⟩
        | exact hk ⟨i2, hi2, e2, e3⟩
    · skip
      refine mh_if_eq dX6_images_18 (tgt := 30) (q := 21) rfl rfl (fun _ => ?_) (fun hh => False.elim (by revert hh; decide))
      refine mh_iconst_m1 dX6_images_30 (q := 31) rfl ?_
      refine mh_ireturn dX6_images_31 rfl rfl ?_
      refine hn (fun z => ?_)
      obtain ⟨⟨i, hi, e, e1⟩, ⟨i2, hi2, e2, e3⟩⟩ := z
      first
      | exact hk ⟨i, hi, e⟩
      | (have e4 : j = i := (nI_eq (by have := hC.2.1; omega) (by have := hC.2.1; omega)).mp e
         subst e4
         exact hk e1)
      | (have e4 : j = i2 := (nI_eq (by have := hC.2.1; omega) (by have := hC.2.1; omega)).mp e2
         subst e4
         exact hk e3)
      | exact hk ⟨i, hi, e, e1⟩
      | exact hk ⟨i2, hi2, e2, e3⟩
set_option maxHeartbeats 4000000 in
set_option maxRecDepth 100000 in
theorem sp_X7_images {l : Launch} {K : mhX} {Φ : mhQ} {S : List mhS} {F : mhF} {I : mhI} {J : mhJ} {P : mhP} {nh : Nat} {wd hg : Nat → Nat} (hM : mhHR S F I nh wd hg) {kd : Nat → Nat → Int32} (hK : ∀ j, j < nh → mhKn I j (wd j) (hg j) (kd j)) {x y z g what : Int32} (hn : ¬ (vHR nh wd hg x y ∧ vHR nh wd hg x z) → Φ (some (.int (-1))) S F I J P) (hb : vHR nh wd hg x y ∧ vHR nh wd hg x z → ¬ mhIaA g what → Φ (some (.int (-2))) S F I J P) (ht : ∀ j r r2 gn, j < nh → r < gRooms (wd j) (hg j) → r2 < gRooms (wd j) (hg j) → 1 ≤ gn → gn ≤ 24 → x = nI j → y = nI r → z = nI r2 → g = nI gn → mhIaA g what → ∀ (F2 : mhF) (I2 : mhI), frM F I F2 I2 → Φ (some (.int (mhImR what (skA (sgIm (wd j) (hg j) (kd j) r) z gn)))) S F2 I2 J P) : mhOk l K mX7_images [.ref 21, .int x, .int y, .int z, .int g, .int what] S F I J P Φ := by
  refine mhOk.of (by decide) (by decide) rfl (Nat.le_of_ble_eq_true rfl) ?_
  refine mh_aload_0 dX7_images_0 (q := 1) rfl ?_
  refine mh_iload_1 dX7_images_1 (q := 2) rfl ?_
  refine mh_iload_2 dX7_images_2 (q := 3) rfl ?_
  refine mh_callV2 ca_X7_images_3 (shX7_0 hM.1) (q := 6) rfl (by simp [Value.category]) ⟨Nat.zero_le _, Nat.zero_le _⟩ ?_
  refine sp_X7_isRoom hM (fun j r hj hr ej er => ?_) (fun hk => ?_)
  · skip
    subst ej; subst er
    refine mh_if_eq dX7_images_6 (tgt := 18) (q := 9) rfl rfl (fun hh => False.elim (by revert hh; decide)) (fun _ => ?_)
    refine mh_aload_0 dX7_images_9 (q := 10) rfl ?_
    refine mh_iload_1 dX7_images_10 (q := 11) rfl ?_
    refine mh_iload_3 dX7_images_11 (q := 12) rfl ?_
    refine mh_callV2 ca_X7_images_12 (shX7_0 hM.1) (q := 15) rfl (by simp [Value.category]) ⟨Nat.zero_le _, Nat.zero_le _⟩ ?_
    refine sp_X7_isRoom hM (fun j2 r2 hj2 hr2 ej2 er2 => ?_) (fun hk => ?_)
    · skip
      have ej3 := (nI_eq (by have := hM.2.1; omega) (by have := hM.2.1; omega)).mp ej2
      subst ej3
      subst er2
      refine mh_if_ne dX7_images_15 (tgt := 20) (q := 18) rfl rfl (fun _ => ?_) (fun hh => False.elim (by revert hh; decide))
      refine mh_iload_4 dX7_images_20 (q := 22) rfl ?_
      refine mh_iconst_1 dX7_images_22 (q := 23) rfl ?_
      refine mh_bipush (v := 24) dX7_images_23 (q := 25) rfl (by decide) ?_
      refine mh_callS3 ca_X7_images_25 (q := 28) rfl (by simp [Value.category]) ⟨Nat.zero_le _, Nat.zero_le _⟩ ?_
      refine sp_X7_within (fun ca => ?_) (fun ca => ?_)
      · skip
        refine mh_if_eq dX7_images_28 (tgt := 41) (q := 31) rfl rfl (fun hh => False.elim (by revert hh; decide)) (fun _ => ?_)
        refine mh_iload_5 dX7_images_31 (q := 33) rfl ?_
        refine mh_iconst_0 dX7_images_33 (q := 34) rfl ?_
        refine mh_iconst_2 dX7_images_34 (q := 35) rfl ?_
        refine mh_callS3 ca_X7_images_35 (q := 38) rfl (by simp [Value.category]) ⟨Nat.zero_le _, Nat.zero_le _⟩ ?_
        refine sp_X7_within (fun cb => ?_) (fun cb => ?_)
        · skip
          refine mh_if_ne dX7_images_38 (tgt := 44) (q := 41) rfl rfl (fun _ => ?_) (fun hh => False.elim (by revert hh; decide))
          refine mh_iconst_0 dX7_images_44 (q := 45) rfl ?_
          refine mh_istore_6 dX7_images_45 (q := 47) rfl ?_
          refine mh_iconst_0 dX7_images_47 (q := 48) rfl ?_
          refine mh_istore_7 dX7_images_48 (q := 50) rfl ?_
          refine mh_bipush (v := (-9)) dX7_images_50 (q := 52) rfl (by decide) ?_
          refine mh_istore_8 dX7_images_52 (q := 54) rfl ?_
          refine mh_bipush (v := (-9)) dX7_images_54 (q := 56) rfl (by decide) ?_
          refine mh_istore_9 dX7_images_56 (q := 58) rfl ?_
          refine mh_iload_4 dX7_images_58 (q := 60) rfl ?_
          refine mh_ineg dX7_images_60 (q := 61) rfl ?_
          refine mh_istore_10 dX7_images_61 (q := 63) rfl ?_
          obtain ⟨gn, hg1, hg2, rfl⟩ := mh_n24 ca
          have g1 : (1 : Int32) ≤ nI gn := ca.1
          have g2 : nI gn ≤ (24 : Int32) := ca.2
          have eg : -nI gn + nI (2 * gn + 1) = nI gn + 1 := by
            have t : nI (2 * gn + 1) = nI gn + nI gn + 1 := by rw [nI_add, nI_1]; exact congrArg nI (by omega)
            rw [t]; grind
          exact lp_X7_seekP (kc := mX7_images.2.2.2.2.cells) (ks := mX7_images.2.2.2.2.slots) hM.1 rfl rfl hr hg1 hg2 (2 * gn + 1) (-nI gn) F I (0, 0, -9, -9) _ _ eg (by grind) (by omega) (by dsimp only; omega) (hM.2.2.2 j hj) (hK j hj) (fun F2 I2 u2 => ht j r r2 gn hj hr hr2 hg1 hg2 rfl rfl rfl rfl ⟨ca, cb⟩ F2 I2 u2)
        · skip
          refine mh_if_ne dX7_images_38 (tgt := 44) (q := 41) rfl rfl (fun hh => False.elim (by revert hh; decide)) (fun _ => ?_)
          refine mh_bipush (v := (-2)) dX7_images_41 (q := 43) rfl (by decide) ?_
          refine mh_ireturn dX7_images_43 rfl rfl ?_
          exact hb ⟨⟨j, hj, rfl, r, hr, rfl⟩, ⟨j, hj, rfl, r2, hr2, rfl⟩⟩ (fun e => by first | exact ca e.1 | exact cb e.2)
      · skip
        refine mh_if_eq dX7_images_28 (tgt := 41) (q := 31) rfl rfl (fun _ => ?_) (fun hh => False.elim (by revert hh; decide))
        refine mh_bipush (v := (-2)) dX7_images_41 (q := 43) rfl (by decide) ?_
        refine mh_ireturn dX7_images_43 rfl rfl ?_
        exact hb ⟨⟨j, hj, rfl, r, hr, rfl⟩, ⟨j, hj, rfl, r2, hr2, rfl⟩⟩ (fun e => by first | exact ca e.1 | exact cb e.2)
    · skip
      refine mh_if_ne dX7_images_15 (tgt := 20) (q := 18) rfl rfl (fun hh => False.elim (by revert hh; decide)) (fun _ => ?_)
      refine mh_iconst_m1 dX7_images_18 (q := 19) rfl ?_
      refine mh_ireturn dX7_images_19 rfl rfl ?_
      refine hn (fun z => ?_)
      obtain ⟨⟨i, hi, e, e1⟩, ⟨i2, hi2, e2, e3⟩⟩ := z
      first
      | exact hk ⟨i, hi, e⟩
      | (have e4 : j = i := (nI_eq (by have := hM.2.1; omega) (by have := hM.2.1; omega)).mp e
         subst e4
         exact hk e1)
      | (have e4 : j = i2 := (nI_eq (by have := hM.2.1; omega) (by have := hM.2.1; omega)).mp e2
         subst e4
         exact hk e3)
      | exact hk ⟨i, hi, e, e1⟩
      | exact hk ⟨i2, hi2, e2, e3⟩
  · skip
    refine mh_if_eq dX7_images_6 (tgt := 18) (q := 9) rfl rfl (fun _ => ?_) (fun hh => False.elim (by revert hh; decide))
    refine mh_iconst_m1 dX7_images_18 (q := 19) rfl ?_
    refine mh_ireturn dX7_images_19 rfl rfl ?_
    refine hn (fun z => ?_)
    obtain ⟨⟨i, hi, e, e1⟩, ⟨i2, hi2, e2, e3⟩⟩ := z
    first
    | exact hk ⟨i, hi, e⟩
    | (have e4 : j = i := (nI_eq (by have := hM.2.1; omega) (by have := hM.2.1; omega)).mp e
       subst e4
       exact hk e1)
    | (have e4 : j = i2 := (nI_eq (by have := hM.2.1; omega) (by have := hM.2.1; omega)).mp e2
       subst e4
       exact hk e3)
    | exact hk ⟨i, hi, e, e1⟩
    | exact hk ⟨i2, hi2, e2, e3⟩
