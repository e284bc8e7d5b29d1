/-! the fewest sides to open, by the reference: its panes are changed for a while -/
/-- all as in I0, but the panes (now Kf) and fars -/
def frT (I0 : mhI) (Kf : Int32 → Int32) (I : mhI) : Prop := (∀ b y, b ≠ 47 → b ≠ 27 → I b y = I0 b y) ∧ ∀ y, I 27 y = Kf y
theorem frT.f47 {I0 I I2 : mhI} {Kf : Int32 → Int32} (h : frT I0 Kf I) (h2 : fr47 I I2) : frT I0 Kf I2 := ⟨fun b y e1 e2 => (h2 b y e1).trans (h.1 b y e1 e2), fun y => (h2 _ _ (by decide)).trans (h.2 y)⟩
theorem frT.up {I0 I : mhI} {Kf Kf' : Int32 → Int32} {i v : Int32} (h : frT I0 Kf I) (hk : ∀ y, (if y = i then v else Kf y) = Kf' y) : frT I0 Kf' (mhUI I 27 i v) := ⟨fun b y e1 e2 => (mhUI_ne e2).trans (h.1 b y e1 e2), fun y => by
  rw [← hk y]
  unfold mhUI
  by_cases c : y = i
  · rw [if_pos ⟨rfl, c⟩, if_pos c]
  · rw [if_neg (fun z => c z.2), if_neg c]; exact h.2 y⟩
theorem frT.hm {I0 I : mhI} {Kf : Int32 → Int32} {j w h : Nat} (hf : frT I0 Kf I) (H : mhHm I0 j w h) : mhHm I j w h := ⟨H.1, H.2.1, (hf.1 _ _ (by decide) (by decide)).trans H.2.2.1, (hf.1 _ _ (by decide) (by decide)).trans H.2.2.2⟩
theorem frT.kn {I0 I : mhI} {Kf : Int32 → Int32} {j w h : Nat} {kd : Nat → Int32} (hf : frT I0 Kf I) (H : ∀ k, k < gSides w h → Kf (nI (50 * j + k)) = kd k) : mhKn I j w h kd := fun k hk => (hf.2 _).trans (H k hk)
theorem frT.back {I0 I : mhI} (hf : frT I0 (I0 27) I) : fr47 I0 I := fun b y e => by
  by_cases c : b = 27
  · subst c; exact hf.2 y
  · exact hf.1 b y e c
def uKf (Kf : Int32 → Int32) (i : Int32) : Int32 → Int32 := fun y => if y = i then 2 else Kf y
theorem uKf_k {Kf : Int32 → Int32} {kd : Nat → Int32} {j w h a : Nat} (g : gOk w h) (hj : j < 3) (ha : a < gSides w h) (H : ∀ k, k < gSides w h → Kf (nI (50 * j + k)) = kd k) : ∀ k, k < gSides w h → uKf Kf (nI (50 * j + a)) (nI (50 * j + k)) = kup kd a k := by
  intro k hk
  have hb := gBd g
  unfold uKf kup
  by_cases c : k = a
  · subst c; rw [if_pos rfl, if_pos rfl]
  · rw [if_neg c, if_neg (fun z => c (by have := (nI_eq (by omega) (by omega)).mp z; omega)), H k hk]
theorem uKf_back {Kf : Int32 → Int32} {i v : Int32} (hv : Kf i = v) : ∀ y, (if y = i then v else uKf Kf i y) = Kf y := by
  intro y
  unfold uKf
  by_cases c : y = i
  · subst c; rw [if_pos rfl]; exact hv.symm
  · rw [if_neg c, if_neg c]
theorem kup_id {kd : Nat → Int32} {a k : Nat} (h : kd a = 2) : kup kd a k = kd k := by
  unfold kup
  by_cases c : k = a
  · subst c; rw [if_pos rfl, h]
  · rw [if_neg c]
theorem kup_id2 {kd : Nat → Int32} {a b k : Nat} (h : kd b = 2) : kup2 kd a b k = kup kd a k := by
  unfold kup2 kup
  by_cases c : k = b
  · subst c; rw [if_pos rfl]; split <;> simp_all
  · rw [if_neg c]
set_option maxHeartbeats 4000000 in
set_option maxRecDepth 100000 in
theorem lp_X7_fOB {l : Launch} {K : mhX} {kc ks : Nat} {Φ : mhQ} {S : List mhS} {J : mhJ} {P : mhP} {I0 : mhI} (h7 : mhKX7 S) {j w h n : Nat} {kd : Nat → Int32} (hm : mhHm I0 j w h) (hk : mhKn I0 j w h kd) (h1 : 1 ≤ n) (hn : n < 1000) {x : Nat} (hx : x < gSides w h) (hn1 : ¬ near w h (kup kd x) n) {o7 : Option Value} : ∀ (m y : Nat) (F : mhF) (I : mhI) (o9 : Option Value), y + m = gSides w h → x < y → frT I0 (uKf (I0 27) (nI (50 * j + x))) I → (∀ v, x < v → v < y → ¬ near w h (kup2 kd x v) n) → (∀ (y2 : Nat) (F2 : mhF) (I2 : mhI) (o8 o9 : Option Value), x < y2 → y2 < gSides w h → near w h (kup2 kd x y2) n → (∀ v, x < v → v < y2 → ¬ near w h (kup2 kd x v) n) → F2 = mhUF (mhUF F 21 39 (nI x)) 21 40 (nI y2) → frT I0 (uKf (I0 27) (nI (50 * j + x))) I2 → mhV l K mX7_findOpened kc ks Φ 212 [some (.ref 21), some (.int (nI j)), some (.int (nI n)), some (.int 2), some (.int (nI (gSides w h))), some (.int 2), some (.int (nI x)), o7, o8, o9] [] S F2 I2 J P) → (∀ (I2 : mhI) (o8 o9 : Option Value), (∀ v, x < v → v < gSides w h → ¬ near w h (kup2 kd x v) n) → frT I0 (uKf (I0 27) (nI (50 * j + x))) I2 → mhV l K mX7_findOpened kc ks Φ 212 [some (.ref 21), some (.int (nI j)), some (.int (nI n)), some (.int (-9)), some (.int (nI (gSides w h))), some (.int 2), some (.int (nI x)), o7, o8, o9] [] S F I2 J P) → mhV l K mX7_findOpened kc ks Φ 120 [some (.ref 21), some (.int (nI j)), some (.int (nI n)), some (.int (-9)), some (.int (nI (gSides w h))), some (.int 2), some (.int (nI x)), o7, some (.int (nI y)), o9] [] S F I J P := by
  have hbd := gBd hm.2.1
  have hj := hm.1
  have hkx := uKf_k hm.2.1 hm.1 hx hk
  intro m
  induction m with
  | zero =>
    intro y F I o9 hi hxy hf hd hA hB
    obtain rfl : y = gSides w h := by omega
    refine mh_iload_8 dX7_findOpened_120 (q := 122) rfl ?_
    refine mh_iload_4 dX7_findOpened_122 (q := 124) rfl ?_
    refine mh_icmp_ge dX7_findOpened_124 (tgt := 212) (q := 127) rfl rfl (fun _ => ?_) (fun hh => absurd (nI_le (Nat.le_refl _) (by omega)) hh)
    exact hB I _ _ hd hf
  | succ m ih =>
    intro y F I o9 hi hxy hf hd hA hB
    have hy : y < gSides w h := by omega
    have kv : I 27 (nI (50 * j + y)) = kup kd x y := (hf.2 _).trans (hkx y hy)
    refine mh_iload_8 dX7_findOpened_120 (q := 122) rfl ?_
    refine mh_iload_4 dX7_findOpened_122 (q := 124) rfl ?_
    refine mh_icmp_ge dX7_findOpened_124 (tgt := 212) (q := 127) rfl rfl (fun hh => absurd hh (nI_ge (by omega) (by omega))) (fun _ => ?_)
    refine mh_iload_3 dX7_findOpened_127 (q := 128) rfl ?_
    refine mh_bipush (v := (-9)) dX7_findOpened_128 (q := 130) rfl (by decide) ?_
    refine mh_icmp_ne dX7_findOpened_130 (tgt := 212) (q := 133) rfl rfl (fun hh => False.elim (by revert hh; decide)) (fun _ => ?_)
    refine mh_aload_0 dX7_findOpened_133 (q := 134) rfl ?_
    refine mh_getR fl_X7_25 dX7_findOpened_134 (q := 137) rfl (shX7_0 h7) rfl ?_
    refine mh_bipush (v := 50) dX7_findOpened_137 (q := 139) rfl (by decide) ?_
    refine mh_iload_1 dX7_findOpened_139 (q := 140) rfl ?_
    refine mh_imul dX7_findOpened_140 (q := 141) rfl ?_
    refine mh_iload_8 dX7_findOpened_141 (q := 143) rfl ?_
    refine mh_iadd dX7_findOpened_143 (q := 144) rfl ?_
    refine mh_iald dX7_findOpened_144 (q := 145) rfl (shX7_6 h7) (by rw [mh_e50]; exact vp_in_nI (by omega) (by decide)) ?_
    rw [mh_e50]
    refine mh_istore_9 dX7_findOpened_145 (q := 147) rfl ?_
    refine mh_iload_9 dX7_findOpened_147 (q := 149) rfl ?_
    refine mh_iconst_2 dX7_findOpened_149 (q := 150) rfl ?_
    refine mh_icmp_ne dX7_findOpened_150 (tgt := 156) (q := 153) rfl rfl (fun c150 => ?_) (fun c150 => ?_)
    · skip
      refine mh_aload_0 dX7_findOpened_156 (q := 157) rfl ?_
      refine mh_getR fl_X7_25 dX7_findOpened_157 (q := 160) rfl (shX7_0 h7) rfl ?_
      refine mh_bipush (v := 50) dX7_findOpened_160 (q := 162) rfl (by decide) ?_
      refine mh_iload_1 dX7_findOpened_162 (q := 163) rfl ?_
      refine mh_imul dX7_findOpened_163 (q := 164) rfl ?_
      refine mh_iload_8 dX7_findOpened_164 (q := 166) rfl ?_
      refine mh_iadd dX7_findOpened_166 (q := 167) rfl ?_
      refine mh_iconst_2 dX7_findOpened_167 (q := 168) rfl ?_
      refine mh_iast dX7_findOpened_168 (q := 169) rfl (shX7_6 h7) (by decide) (by rw [mh_e50]; exact vp_in_nI (by omega) (by decide)) ?_
      rw [mh_e50]
      have hfa := hf.up (i := nI (50 * j + y)) (v := 2) (Kf' := uKf (uKf (I0 27) (nI (50 * j + x))) (nI (50 * j + y))) (fun _ => rfl)
      have hky := uKf_k hm.2.1 hm.1 hy hkx
      refine mh_aload_0 dX7_findOpened_169 (q := 170) rfl ?_
      refine mh_iload_1 dX7_findOpened_170 (q := 171) rfl ?_
      refine mh_iload_2 dX7_findOpened_171 (q := 172) rfl ?_
      refine mh_callV2 ca_X7_findOpened_172 (shX7_0 h7) (q := 175) rfl (by simp [Value.category]) ⟨Nat.zero_le _, Nat.zero_le _⟩ ?_
      refine sp_X7_areNear h7 (hfa.hm hm) (hfa.kn hky) h1 hn (fun z I2 g2 => ?_) (fun z I2 g2 => ?_)
      · skip
        refine mh_if_eq dX7_findOpened_175 (tgt := 192) (q := 178) rfl rfl (fun hh => False.elim (by revert hh; decide)) (fun _ => ?_)
        refine mh_iconst_2 dX7_findOpened_178 (q := 179) rfl ?_
        refine mh_istore_3 dX7_findOpened_179 (q := 180) rfl ?_
        refine mh_aload_0 dX7_findOpened_180 (q := 181) rfl ?_
        refine mh_iload_6 dX7_findOpened_181 (q := 183) rfl ?_
        refine mh_putI (Or.inl fw_X7_246) rfl rfl dX7_findOpened_183 (q := 186) rfl (shX7_0 h7) rfl ?_
        refine mh_aload_0 dX7_findOpened_186 (q := 187) rfl ?_
        refine mh_iload_8 dX7_findOpened_187 (q := 189) rfl ?_
        refine mh_putI (Or.inl fw_X7_249) rfl rfl dX7_findOpened_189 (q := 192) rfl (shX7_0 h7) rfl ?_
        refine mh_aload_0 dX7_findOpened_192 (q := 193) rfl ?_
        refine mh_getR fl_X7_25 dX7_findOpened_193 (q := 196) rfl (shX7_0 h7) rfl ?_
        refine mh_bipush (v := 50) dX7_findOpened_196 (q := 198) rfl (by decide) ?_
        refine mh_iload_1 dX7_findOpened_198 (q := 199) rfl ?_
        refine mh_imul dX7_findOpened_199 (q := 200) rfl ?_
        refine mh_iload_8 dX7_findOpened_200 (q := 202) rfl ?_
        refine mh_iadd dX7_findOpened_202 (q := 203) rfl ?_
        refine mh_iload_9 dX7_findOpened_203 (q := 205) rfl ?_
        refine mh_iast dX7_findOpened_205 (q := 206) rfl (shX7_6 h7) (by decide) (by rw [mh_e50]; exact vp_in_nI (by omega) (by decide)) ?_
        rw [mh_e50]
        have hfb := (hfa.f47 g2).up (Kf' := uKf (I0 27) (nI (50 * j + x))) (uKf_back (hf.2 (nI (50 * j + y))).symm)
        refine mh_iinc_8 (v := 1) dX7_findOpened_206 (q := 209) rfl (by decide) ?_
        refine mh_goto dX7_findOpened_209 (tgt := 120) rfl ?_
        rw [nI_1]
        have hz := hA y _ _ (some (.int (nI (y + 1)))) (some (.int (I 27 (nI (50 * j + y))))) hxy hy z hd rfl hfb
        by_cases c : y + 1 = gSides w h
        · skip
          rw [c] at hz ⊢
          refine mh_iload_8 dX7_findOpened_120 (q := 122) rfl ?_
          refine mh_iload_4 dX7_findOpened_122 (q := 124) rfl ?_
          refine mh_icmp_ge dX7_findOpened_124 (tgt := 212) (q := 127) rfl rfl (fun _ => ?_) (fun hh => absurd (nI_le (Nat.le_refl _) (by omega)) hh)
          exact hz
        · skip
          refine mh_iload_8 dX7_findOpened_120 (q := 122) rfl ?_
          refine mh_iload_4 dX7_findOpened_122 (q := 124) rfl ?_
          refine mh_icmp_ge dX7_findOpened_124 (tgt := 212) (q := 127) rfl rfl (fun hh => absurd hh (nI_ge (by omega) (by omega))) (fun _ => ?_)
          refine mh_iload_3 dX7_findOpened_127 (q := 128) rfl ?_
          refine mh_bipush (v := (-9)) dX7_findOpened_128 (q := 130) rfl (by decide) ?_
          refine mh_icmp_ne dX7_findOpened_130 (tgt := 212) (q := 133) rfl rfl (fun _ => ?_) (fun hh => False.elim (by revert hh; decide))
          exact hz
      · skip
        refine mh_if_eq dX7_findOpened_175 (tgt := 192) (q := 178) rfl rfl (fun _ => ?_) (fun hh => False.elim (by revert hh; decide))
        refine mh_aload_0 dX7_findOpened_192 (q := 193) rfl ?_
        refine mh_getR fl_X7_25 dX7_findOpened_193 (q := 196) rfl (shX7_0 h7) rfl ?_
        refine mh_bipush (v := 50) dX7_findOpened_196 (q := 198) rfl (by decide) ?_
        refine mh_iload_1 dX7_findOpened_198 (q := 199) rfl ?_
        refine mh_imul dX7_findOpened_199 (q := 200) rfl ?_
        refine mh_iload_8 dX7_findOpened_200 (q := 202) rfl ?_
        refine mh_iadd dX7_findOpened_202 (q := 203) rfl ?_
        refine mh_iload_9 dX7_findOpened_203 (q := 205) rfl ?_
        refine mh_iast dX7_findOpened_205 (q := 206) rfl (shX7_6 h7) (by decide) (by rw [mh_e50]; exact vp_in_nI (by omega) (by decide)) ?_
        rw [mh_e50]
        have hfb := (hfa.f47 g2).up (Kf' := uKf (I0 27) (nI (50 * j + x))) (uKf_back (hf.2 (nI (50 * j + y))).symm)
        refine mh_iinc_8 (v := 1) dX7_findOpened_206 (q := 209) rfl (by decide) ?_
        refine mh_goto dX7_findOpened_209 (tgt := 120) rfl ?_
        rw [nI_1]
        refine ih (y + 1) F _ _ (by omega) (by omega) hfb (fun v q1 q2 => ?_) hA hB
        rcases Nat.lt_or_ge v y with q | q
        · exact hd v q1 q
        · obtain rfl : v = y := by omega
          exact z
    · skip
      refine mh_goto dX7_findOpened_153 (tgt := 206) rfl ?_
      refine mh_iinc_8 (v := 1) dX7_findOpened_206 (q := 209) rfl (by decide) ?_
      refine mh_goto dX7_findOpened_209 (tgt := 120) rfl ?_
      rw [nI_1]
      refine ih (y + 1) F I _ (by omega) (by omega) hf (fun v q1 q2 => ?_) hA hB
      rcases Nat.lt_or_ge v y with q | q
      · exact hd v q1 q
      · obtain rfl : v = y := by omega
        intro z
        have c2 : kd v = 2 := by
          rw [kv] at c150
          unfold kup at c150
          rw [if_neg (by omega)] at c150
          exact c150
        exact hn1 ((near_congr hm.2.1 (fun k _ => by rw [kup_id2 c2])).mp z)
set_option maxHeartbeats 4000000 in
set_option maxRecDepth 100000 in
theorem lp_X7_fOA1 {l : Launch} {K : mhX} {kc ks : Nat} {Φ : mhQ} {S : List mhS} {J : mhJ} {P : mhP} {I0 : mhI} (h7 : mhKX7 S) {j w h n : Nat} {kd : Nat → Int32} (hm : mhHm I0 j w h) (hk : mhKn I0 j w h kd) (h1 : 1 ≤ n) (hn : n < 1000) (hnn : ¬ near w h kd n)  : ∀ (m x : Nat) (F : mhF) (I : mhI) (o7 o8 o9 : Option Value), x + m = gSides w h → frT I0 (I0 27) I → (∀ u, u < x → ¬ near w h (kup kd u) n) → (∀ (x2 : Nat) (F2 : mhF) (I2 : mhI) (o6 o7 o8 o9 : Option Value), x2 < gSides w h → near w h (kup kd x2) n → (∀ u, u < x2 → ¬ near w h (kup kd u) n) → F2 = mhUF F 21 39 (nI x2) → frT I0 (I0 27) I2 → mhV l K mX7_findOpened kc ks Φ 232 [some (.ref 21), some (.int (nI j)), some (.int (nI n)), some (.int 1), some (.int (nI (gSides w h))), some (.int 1), o6, o7, o8, o9] [] S F2 I2 J P) → (∀ (I2 : mhI) (o6 o7 o8 o9 : Option Value), (∀ u, u < gSides w h → ¬ near w h (kup kd u) n) → frT I0 (I0 27) I2 → mhV l K mX7_findOpened kc ks Φ 232 [some (.ref 21), some (.int (nI j)), some (.int (nI n)), some (.int (-9)), some (.int (nI (gSides w h))), some (.int 1), o6, o7, o8, o9] [] S F I2 J P) → mhV l K mX7_findOpened kc ks Φ 39 [some (.ref 21), some (.int (nI j)), some (.int (nI n)), some (.int (-9)), some (.int (nI (gSides w h))), some (.int 1), some (.int (nI x)), o7, o8, o9] [] S F I J P := by
  have hbd := gBd hm.2.1
  have hj := hm.1
  intro m
  induction m with
  | zero =>
    intro x F I o7 o8 o9 hi hf hd hA hB
    obtain rfl : x = gSides w h := by omega
    refine mh_iload_6 dX7_findOpened_39 (q := 41) rfl ?_
    refine mh_iload_4 dX7_findOpened_41 (q := 43) rfl ?_
    refine mh_icmp_ge dX7_findOpened_43 (tgt := 232) (q := 46) rfl rfl (fun _ => ?_) (fun hh => absurd (nI_le (Nat.le_refl _) (by omega)) hh)
    exact hB I _ _ _ _ hd hf
  | succ m ih =>
    intro x F I o7 o8 o9 hi hf hd hA hB
    have hx : x < gSides w h := by omega
    have kv : I 27 (nI (50 * j + x)) = kd x := (hf.2 _).trans (hk x hx)
    refine mh_iload_6 dX7_findOpened_39 (q := 41) rfl ?_
    refine mh_iload_4 dX7_findOpened_41 (q := 43) rfl ?_
    refine mh_icmp_ge dX7_findOpened_43 (tgt := 232) (q := 46) rfl rfl (fun hh => absurd hh (nI_ge (by omega) (by omega))) (fun _ => ?_)
    refine mh_iload_3 dX7_findOpened_46 (q := 47) rfl ?_
    refine mh_bipush (v := (-9)) dX7_findOpened_47 (q := 49) rfl (by decide) ?_
    refine mh_icmp_ne dX7_findOpened_49 (tgt := 232) (q := 52) rfl rfl (fun hh => False.elim (by revert hh; decide)) (fun _ => ?_)
    refine mh_aload_0 dX7_findOpened_52 (q := 53) rfl ?_
    refine mh_getR fl_X7_25 dX7_findOpened_53 (q := 56) rfl (shX7_0 h7) rfl ?_
    refine mh_bipush (v := 50) dX7_findOpened_56 (q := 58) rfl (by decide) ?_
    refine mh_iload_1 dX7_findOpened_58 (q := 59) rfl ?_
    refine mh_imul dX7_findOpened_59 (q := 60) rfl ?_
    refine mh_iload_6 dX7_findOpened_60 (q := 62) rfl ?_
    refine mh_iadd dX7_findOpened_62 (q := 63) rfl ?_
    refine mh_iald dX7_findOpened_63 (q := 64) rfl (shX7_6 h7) (by rw [mh_e50]; exact vp_in_nI (by omega) (by decide)) ?_
    rw [mh_e50]
    refine mh_istore_7 dX7_findOpened_64 (q := 66) rfl ?_
    refine mh_iload_7 dX7_findOpened_66 (q := 68) rfl ?_
    refine mh_iconst_2 dX7_findOpened_68 (q := 69) rfl ?_
    refine mh_icmp_ne dX7_findOpened_69 (tgt := 75) (q := 72) rfl rfl (fun c69 => ?_) (fun c69 => ?_)
    · skip
      refine mh_aload_0 dX7_findOpened_75 (q := 76) rfl ?_
      refine mh_getR fl_X7_25 dX7_findOpened_76 (q := 79) rfl (shX7_0 h7) rfl ?_
      refine mh_bipush (v := 50) dX7_findOpened_79 (q := 81) rfl (by decide) ?_
      refine mh_iload_1 dX7_findOpened_81 (q := 82) rfl ?_
      refine mh_imul dX7_findOpened_82 (q := 83) rfl ?_
      refine mh_iload_6 dX7_findOpened_83 (q := 85) rfl ?_
      refine mh_iadd dX7_findOpened_85 (q := 86) rfl ?_
      refine mh_iconst_2 dX7_findOpened_86 (q := 87) rfl ?_
      refine mh_iast dX7_findOpened_87 (q := 88) rfl (shX7_6 h7) (by decide) (by rw [mh_e50]; exact vp_in_nI (by omega) (by decide)) ?_
      rw [mh_e50]
      have hfa := hf.up (i := nI (50 * j + x)) (v := 2) (Kf' := uKf (I0 27) (nI (50 * j + x))) (fun _ => rfl)
      have hkx := uKf_k hm.2.1 hm.1 hx hk
      refine mh_iload_5 dX7_findOpened_88 (q := 90) rfl ?_
      refine mh_iconst_1 dX7_findOpened_90 (q := 91) rfl ?_
      refine mh_icmp_ne dX7_findOpened_91 (tgt := 114) (q := 94) rfl rfl (fun hh => False.elim (by revert hh; decide)) (fun _ => ?_)
      refine mh_aload_0 dX7_findOpened_94 (q := 95) rfl ?_
      refine mh_iload_1 dX7_findOpened_95 (q := 96) rfl ?_
      refine mh_iload_2 dX7_findOpened_96 (q := 97) rfl ?_
      refine mh_callV2 ca_X7_findOpened_97 (shX7_0 h7) (q := 100) rfl (by simp [Value.category]) ⟨Nat.zero_le _, Nat.zero_le _⟩ ?_
      refine sp_X7_areNear h7 (hfa.hm hm) (hfa.kn hkx) h1 hn (fun z I2 g2 => ?_) (fun z I2 g2 => ?_)
      · skip
        refine mh_if_eq dX7_findOpened_100 (tgt := 212) (q := 103) rfl rfl (fun hh => False.elim (by revert hh; decide)) (fun _ => ?_)
        refine mh_iconst_1 dX7_findOpened_103 (q := 104) rfl ?_
        refine mh_istore_3 dX7_findOpened_104 (q := 105) rfl ?_
        refine mh_aload_0 dX7_findOpened_105 (q := 106) rfl ?_
        refine mh_iload_6 dX7_findOpened_106 (q := 108) rfl ?_
        refine mh_putI (Or.inl fw_X7_246) rfl rfl dX7_findOpened_108 (q := 111) rfl (shX7_0 h7) rfl ?_
        refine mh_goto dX7_findOpened_111 (tgt := 212) rfl ?_
        refine mh_aload_0 dX7_findOpened_212 (q := 213) rfl ?_
        refine mh_getR fl_X7_25 dX7_findOpened_213 (q := 216) rfl (shX7_0 h7) rfl ?_
        refine mh_bipush (v := 50) dX7_findOpened_216 (q := 218) rfl (by decide) ?_
        refine mh_iload_1 dX7_findOpened_218 (q := 219) rfl ?_
        refine mh_imul dX7_findOpened_219 (q := 220) rfl ?_
        refine mh_iload_6 dX7_findOpened_220 (q := 222) rfl ?_
        refine mh_iadd dX7_findOpened_222 (q := 223) rfl ?_
        refine mh_iload_7 dX7_findOpened_223 (q := 225) rfl ?_
        refine mh_iast dX7_findOpened_225 (q := 226) rfl (shX7_6 h7) (by decide) (by rw [mh_e50]; exact vp_in_nI (by omega) (by decide)) ?_
        rw [mh_e50]
        have hfb := (hfa.f47 g2).up (Kf' := I0 27) (uKf_back (v := I 27 (nI (50 * j + x))) (hf.2 (nI (50 * j + x))).symm)
        refine mh_iinc_6 (v := 1) dX7_findOpened_226 (q := 229) rfl (by decide) ?_
        refine mh_goto dX7_findOpened_229 (tgt := 39) rfl ?_
        rw [nI_1]
        have hz := hA x _ _ (some (.int (nI (x + 1)))) (some (.int (I 27 (nI (50 * j + x))))) o8 o9 hx z hd rfl hfb
        by_cases c : x + 1 = gSides w h
        · skip
          rw [c] at hz ⊢
          refine mh_iload_6 dX7_findOpened_39 (q := 41) rfl ?_
          refine mh_iload_4 dX7_findOpened_41 (q := 43) rfl ?_
          refine mh_icmp_ge dX7_findOpened_43 (tgt := 232) (q := 46) rfl rfl (fun _ => ?_) (fun hh => absurd (nI_le (Nat.le_refl _) (by omega)) hh)
          exact hz
        · skip
          refine mh_iload_6 dX7_findOpened_39 (q := 41) rfl ?_
          refine mh_iload_4 dX7_findOpened_41 (q := 43) rfl ?_
          refine mh_icmp_ge dX7_findOpened_43 (tgt := 232) (q := 46) rfl rfl (fun hh => absurd hh (nI_ge (by omega) (by omega))) (fun _ => ?_)
          refine mh_iload_3 dX7_findOpened_46 (q := 47) rfl ?_
          refine mh_bipush (v := (-9)) dX7_findOpened_47 (q := 49) rfl (by decide) ?_
          refine mh_icmp_ne dX7_findOpened_49 (tgt := 232) (q := 52) rfl rfl (fun _ => ?_) (fun hh => False.elim (by revert hh; decide))
          exact hz
      · skip
        refine mh_if_eq dX7_findOpened_100 (tgt := 212) (q := 103) rfl rfl (fun _ => ?_) (fun hh => False.elim (by revert hh; decide))
        refine mh_aload_0 dX7_findOpened_212 (q := 213) rfl ?_
        refine mh_getR fl_X7_25 dX7_findOpened_213 (q := 216) rfl (shX7_0 h7) rfl ?_
        refine mh_bipush (v := 50) dX7_findOpened_216 (q := 218) rfl (by decide) ?_
        refine mh_iload_1 dX7_findOpened_218 (q := 219) rfl ?_
        refine mh_imul dX7_findOpened_219 (q := 220) rfl ?_
        refine mh_iload_6 dX7_findOpened_220 (q := 222) rfl ?_
        refine mh_iadd dX7_findOpened_222 (q := 223) rfl ?_
        refine mh_iload_7 dX7_findOpened_223 (q := 225) rfl ?_
        refine mh_iast dX7_findOpened_225 (q := 226) rfl (shX7_6 h7) (by decide) (by rw [mh_e50]; exact vp_in_nI (by omega) (by decide)) ?_
        rw [mh_e50]
        have hfb := (hfa.f47 g2).up (Kf' := I0 27) (uKf_back (v := I 27 (nI (50 * j + x))) (hf.2 (nI (50 * j + x))).symm)
        refine mh_iinc_6 (v := 1) dX7_findOpened_226 (q := 229) rfl (by decide) ?_
        refine mh_goto dX7_findOpened_229 (tgt := 39) rfl ?_
        rw [nI_1]
        refine ih (x + 1) F _ _ _ _ (by omega) hfb (fun u hu => ?_) hA hB
        rcases Nat.lt_or_ge u x with q | q
        · exact hd u q
        · rw [show u = x by omega]; exact z
    · skip
      refine mh_goto dX7_findOpened_72 (tgt := 226) rfl ?_
      refine mh_iinc_6 (v := 1) dX7_findOpened_226 (q := 229) rfl (by decide) ?_
      refine mh_goto dX7_findOpened_229 (tgt := 39) rfl ?_
      rw [nI_1]
      refine ih (x + 1) F I _ _ _ (by omega) hf (fun u hu => by
        rcases Nat.lt_or_ge u x with q | q
        · exact hd u q
        · obtain rfl : u = x := by omega
          exact fun z => hnn ((near_congr hm.2.1 (fun k _ => by rw [kup_id (kv.symm.trans c69)])).mp z)) hA hB
set_option maxHeartbeats 4000000 in
set_option maxRecDepth 100000 in
theorem lp_X7_fOA2 {l : Launch} {K : mhX} {kc ks : Nat} {Φ : mhQ} {S : List mhS} {J : mhJ} {P : mhP} {I0 : mhI} (h7 : mhKX7 S) {j w h n : Nat} {kd : Nat → Int32} (hm : mhHm I0 j w h) (hk : mhKn I0 j w h kd) (h1 : 1 ≤ n) (hn : n < 1000) (hnn : ¬ near w h kd n) (hs1 : ∀ u, u < gSides w h → ¬ near w h (kup kd u) n) : ∀ (m x : Nat) (F : mhF) (I : mhI) (o7 o8 o9 : Option Value), x + m = gSides w h → frT I0 (I0 27) I → (∀ u v, u < v → v < gSides w h → u < x → ¬ near w h (kup2 kd u v) n) → (∀ (x2 y2 : Nat) (F2 : mhF) (I2 : mhI) (o6 o7 o8 o9 : Option Value), x2 < y2 → y2 < gSides w h → near w h (kup2 kd x2 y2) n → (∀ u v, u < v → v < gSides w h → (u < x2 ∨ (u = x2 ∧ v < y2)) → ¬ near w h (kup2 kd u v) n) → F2 = mhUF (mhUF F 21 39 (nI x2)) 21 40 (nI y2) → frT I0 (I0 27) I2 → mhV l K mX7_findOpened kc ks Φ 232 [some (.ref 21), some (.int (nI j)), some (.int (nI n)), some (.int 2), some (.int (nI (gSides w h))), some (.int 2), o6, o7, o8, o9] [] S F2 I2 J P) → (∀ (I2 : mhI) (o6 o7 o8 o9 : Option Value), (∀ u v, u < v → v < gSides w h → u < gSides w h → ¬ near w h (kup2 kd u v) n) → frT I0 (I0 27) I2 → mhV l K mX7_findOpened kc ks Φ 232 [some (.ref 21), some (.int (nI j)), some (.int (nI n)), some (.int (-9)), some (.int (nI (gSides w h))), some (.int 2), o6, o7, o8, o9] [] S F I2 J P) → mhV l K mX7_findOpened kc ks Φ 39 [some (.ref 21), some (.int (nI j)), some (.int (nI n)), some (.int (-9)), some (.int (nI (gSides w h))), some (.int 2), some (.int (nI x)), o7, o8, o9] [] S F I J P := by
  have hbd := gBd hm.2.1
  have hj := hm.1
  intro m
  induction m with
  | zero =>
    intro x F I o7 o8 o9 hi hf hd hA hB
    obtain rfl : x = gSides w h := by omega
    refine mh_iload_6 dX7_findOpened_39 (q := 41) rfl ?_
    refine mh_iload_4 dX7_findOpened_41 (q := 43) rfl ?_
    refine mh_icmp_ge dX7_findOpened_43 (tgt := 232) (q := 46) rfl rfl (fun _ => ?_) (fun hh => absurd (nI_le (Nat.le_refl _) (by omega)) hh)
    exact hB I _ _ _ _ hd hf
  | succ m ih =>
    intro x F I o7 o8 o9 hi hf hd hA hB
    have hx : x < gSides w h := by omega
    have kv : I 27 (nI (50 * j + x)) = kd x := (hf.2 _).trans (hk x hx)
    refine mh_iload_6 dX7_findOpened_39 (q := 41) rfl ?_
    refine mh_iload_4 dX7_findOpened_41 (q := 43) rfl ?_
    refine mh_icmp_ge dX7_findOpened_43 (tgt := 232) (q := 46) rfl rfl (fun hh => absurd hh (nI_ge (by omega) (by omega))) (fun _ => ?_)
    refine mh_iload_3 dX7_findOpened_46 (q := 47) rfl ?_
    refine mh_bipush (v := (-9)) dX7_findOpened_47 (q := 49) rfl (by decide) ?_
    refine mh_icmp_ne dX7_findOpened_49 (tgt := 232) (q := 52) rfl rfl (fun hh => False.elim (by revert hh; decide)) (fun _ => ?_)
    refine mh_aload_0 dX7_findOpened_52 (q := 53) rfl ?_
    refine mh_getR fl_X7_25 dX7_findOpened_53 (q := 56) rfl (shX7_0 h7) rfl ?_
    refine mh_bipush (v := 50) dX7_findOpened_56 (q := 58) rfl (by decide) ?_
    refine mh_iload_1 dX7_findOpened_58 (q := 59) rfl ?_
    refine mh_imul dX7_findOpened_59 (q := 60) rfl ?_
    refine mh_iload_6 dX7_findOpened_60 (q := 62) rfl ?_
    refine mh_iadd dX7_findOpened_62 (q := 63) rfl ?_
    refine mh_iald dX7_findOpened_63 (q := 64) rfl (shX7_6 h7) (by rw [mh_e50]; exact vp_in_nI (by omega) (by decide)) ?_
    rw [mh_e50]
    refine mh_istore_7 dX7_findOpened_64 (q := 66) rfl ?_
    refine mh_iload_7 dX7_findOpened_66 (q := 68) rfl ?_
    refine mh_iconst_2 dX7_findOpened_68 (q := 69) rfl ?_
    refine mh_icmp_ne dX7_findOpened_69 (tgt := 75) (q := 72) rfl rfl (fun c69 => ?_) (fun c69 => ?_)
    · skip
      refine mh_aload_0 dX7_findOpened_75 (q := 76) rfl ?_
      refine mh_getR fl_X7_25 dX7_findOpened_76 (q := 79) rfl (shX7_0 h7) rfl ?_
      refine mh_bipush (v := 50) dX7_findOpened_79 (q := 81) rfl (by decide) ?_
      refine mh_iload_1 dX7_findOpened_81 (q := 82) rfl ?_
      refine mh_imul dX7_findOpened_82 (q := 83) rfl ?_
      refine mh_iload_6 dX7_findOpened_83 (q := 85) rfl ?_
      refine mh_iadd dX7_findOpened_85 (q := 86) rfl ?_
      refine mh_iconst_2 dX7_findOpened_86 (q := 87) rfl ?_
      refine mh_iast dX7_findOpened_87 (q := 88) rfl (shX7_6 h7) (by decide) (by rw [mh_e50]; exact vp_in_nI (by omega) (by decide)) ?_
      rw [mh_e50]
      have hfa := hf.up (i := nI (50 * j + x)) (v := 2) (Kf' := uKf (I0 27) (nI (50 * j + x))) (fun _ => rfl)
      have hkx := uKf_k hm.2.1 hm.1 hx hk
      refine mh_iload_5 dX7_findOpened_88 (q := 90) rfl ?_
      refine mh_iconst_1 dX7_findOpened_90 (q := 91) rfl ?_
      refine mh_icmp_ne dX7_findOpened_91 (tgt := 114) (q := 94) rfl rfl (fun _ => ?_) (fun hh => False.elim (by revert hh; decide))
      refine mh_iload_6 dX7_findOpened_114 (q := 116) rfl ?_
      refine mh_iconst_1 dX7_findOpened_116 (q := 117) rfl ?_
      refine mh_iadd dX7_findOpened_117 (q := 118) rfl ?_
      rw [nI_1]
      refine mh_istore_8 dX7_findOpened_118 (q := 120) rfl ?_
      refine lp_X7_fOB h7 hm hk h1 hn hx (hs1 x hx) (gSides w h - (x + 1)) (x + 1) F _ _ (by omega) (by omega) hfa (fun v q1 q2 => by omega) (fun y2 F3 I3 p8 p9 e1 e2 e3 e4 e5 hf3 => ?_) (fun I3 p8 p9 hdx hf3 => ?_)
      · skip
        refine mh_aload_0 dX7_findOpened_212 (q := 213) rfl ?_
        refine mh_getR fl_X7_25 dX7_findOpened_213 (q := 216) rfl (shX7_0 h7) rfl ?_
        refine mh_bipush (v := 50) dX7_findOpened_216 (q := 218) rfl (by decide) ?_
        refine mh_iload_1 dX7_findOpened_218 (q := 219) rfl ?_
        refine mh_imul dX7_findOpened_219 (q := 220) rfl ?_
        refine mh_iload_6 dX7_findOpened_220 (q := 222) rfl ?_
        refine mh_iadd dX7_findOpened_222 (q := 223) rfl ?_
        refine mh_iload_7 dX7_findOpened_223 (q := 225) rfl ?_
        refine mh_iast dX7_findOpened_225 (q := 226) rfl (shX7_6 h7) (by decide) (by rw [mh_e50]; exact vp_in_nI (by omega) (by decide)) ?_
        rw [mh_e50]
        have hfb := hf3.up (Kf' := I0 27) (uKf_back (v := I 27 (nI (50 * j + x))) (hf.2 (nI (50 * j + x))).symm)
        refine mh_iinc_6 (v := 1) dX7_findOpened_226 (q := 229) rfl (by decide) ?_
        refine mh_goto dX7_findOpened_229 (tgt := 39) rfl ?_
        rw [nI_1]
        have hz := hA x y2 F3 _ (some (.int (nI (x + 1)))) (some (.int (I 27 (nI (50 * j + x))))) p8 p9 e1 e2 e3 (fun u v q1 q2 q3 => by
          rcases q3 with q | ⟨q, q4⟩
          · exact hd u v q1 q2 q
          · rw [q]; rw [q] at q1; exact e4 v q1 q4) e5 hfb
        by_cases c : x + 1 = gSides w h
        · skip
          rw [c] at hz ⊢
          refine mh_iload_6 dX7_findOpened_39 (q := 41) rfl ?_
          refine mh_iload_4 dX7_findOpened_41 (q := 43) rfl ?_
          refine mh_icmp_ge dX7_findOpened_43 (tgt := 232) (q := 46) rfl rfl (fun _ => ?_) (fun hh => absurd (nI_le (Nat.le_refl _) (by omega)) hh)
          exact hz
        · skip
          refine mh_iload_6 dX7_findOpened_39 (q := 41) rfl ?_
          refine mh_iload_4 dX7_findOpened_41 (q := 43) rfl ?_
          refine mh_icmp_ge dX7_findOpened_43 (tgt := 232) (q := 46) rfl rfl (fun hh => absurd hh (nI_ge (by omega) (by omega))) (fun _ => ?_)
          refine mh_iload_3 dX7_findOpened_46 (q := 47) rfl ?_
          refine mh_bipush (v := (-9)) dX7_findOpened_47 (q := 49) rfl (by decide) ?_
          refine mh_icmp_ne dX7_findOpened_49 (tgt := 232) (q := 52) rfl rfl (fun _ => ?_) (fun hh => False.elim (by revert hh; decide))
          exact hz
      · skip
        refine mh_aload_0 dX7_findOpened_212 (q := 213) rfl ?_
        refine mh_getR fl_X7_25 dX7_findOpened_213 (q := 216) rfl (shX7_0 h7) rfl ?_
        refine mh_bipush (v := 50) dX7_findOpened_216 (q := 218) rfl (by decide) ?_
        refine mh_iload_1 dX7_findOpened_218 (q := 219) rfl ?_
        refine mh_imul dX7_findOpened_219 (q := 220) rfl ?_
        refine mh_iload_6 dX7_findOpened_220 (q := 222) rfl ?_
        refine mh_iadd dX7_findOpened_222 (q := 223) rfl ?_
        refine mh_iload_7 dX7_findOpened_223 (q := 225) rfl ?_
        refine mh_iast dX7_findOpened_225 (q := 226) rfl (shX7_6 h7) (by decide) (by rw [mh_e50]; exact vp_in_nI (by omega) (by decide)) ?_
        rw [mh_e50]
        have hfb := hf3.up (Kf' := I0 27) (uKf_back (v := I 27 (nI (50 * j + x))) (hf.2 (nI (50 * j + x))).symm)
        refine mh_iinc_6 (v := 1) dX7_findOpened_226 (q := 229) rfl (by decide) ?_
        refine mh_goto dX7_findOpened_229 (tgt := 39) rfl ?_
        rw [nI_1]
        refine ih (x + 1) F _ _ _ _ (by omega) hfb (fun u v q1 q2 q3 => ?_) hA hB
        rcases Nat.lt_or_ge u x with q | q
        · exact hd u v q1 q2 q
        · have e : u = x := by omega
          rw [e]; rw [e] at q1; exact hdx v q1 q2
    · skip
      refine mh_goto dX7_findOpened_72 (tgt := 226) rfl ?_
      refine mh_iinc_6 (v := 1) dX7_findOpened_226 (q := 229) rfl (by decide) ?_
      refine mh_goto dX7_findOpened_229 (tgt := 39) rfl ?_
      rw [nI_1]
      refine ih (x + 1) F I _ _ _ (by omega) hf (fun u v q1 q2 q3 => by
        rcases Nat.lt_or_ge u x with q | q
        · exact hd u v q1 q2 q
        · obtain rfl : u = x := by omega
          refine fun z => hs1 v q2 ((near_congr hm.2.1 (fun k _ => ?_)).mp z)
          have c2 : kd u = 2 := kv.symm.trans c69
          unfold kup2 kup
          by_cases e : k = v
          · rw [if_pos e, if_pos e]
          · rw [if_neg e, if_neg e]
            by_cases e2 : k = u
            · rw [if_pos e2, e2, c2]
            · rw [if_neg e2]) hA hB
set_option maxHeartbeats 4000000 in
set_option maxRecDepth 100000 in
theorem sp_X7_findOpened {l : Launch} {K : mhX} {Φ : mhQ} {S : List mhS} {F : mhF} {I : mhI} {J : mhJ} {P : mhP} (h7 : mhKX7 S) {j w h n : Nat} {kd : Nat → Int32} (hm : mhHm I j w h) (hk : mhKn I j w h kd) (h1 : 1 ≤ n) (hn : n < 1000) (hΦ : ∀ (m A B : Int32) (F2 : mhF) (I2 : mhI), opA w h kd n m A B → (m = 1 → F2 21 39 = A) → (m = 2 → F2 21 39 = A ∧ F2 21 40 = B) → (∀ b k, ¬ (b = 21 ∧ 39 ≤ k ∧ k < 41) → F2 b k = F b k) → fr47 I I2 → Φ (some (.int m)) S F2 I2 J P) : mhOk l K mX7_findOpened [.ref 21, .int (nI j), .int (nI n)] S F I J P Φ := by
  refine mhOk.of (by decide) (by decide) rfl (Nat.le_of_ble_eq_true rfl) ?_
  refine mh_aload_0 dX7_findOpened_0 (q := 1) rfl ?_
  refine mh_iload_1 dX7_findOpened_1 (q := 2) rfl ?_
  refine mh_iload_2 dX7_findOpened_2 (q := 3) rfl ?_
  refine mh_callV2 ca_X7_findOpened_3 (shX7_0 h7) (q := 6) rfl (by simp [Value.category]) ⟨Nat.zero_le _, Nat.zero_le _⟩ ?_
  refine sp_X7_areNear h7 hm hk h1 hn (fun z I2 g2 => ?_) (fun z I2 g2 => ?_)
  · skip
    refine mh_if_eq dX7_findOpened_6 (tgt := 11) (q := 9) rfl rfl (fun hh => False.elim (by revert hh; decide)) (fun _ => ?_)
    refine mh_iconst_0 dX7_findOpened_9 (q := 10) rfl ?_
    refine mh_ireturn dX7_findOpened_10 rfl rfl ?_
    exact hΦ 0 (-9) (-9) F I2 (Or.inl ⟨z, rfl, rfl, rfl⟩) (fun e => absurd e (by decide)) (fun e => absurd e (by decide)) (fun _ _ _ => rfl) g2
  · skip
    refine mh_if_eq dX7_findOpened_6 (tgt := 11) (q := 9) rfl rfl (fun _ => ?_) (fun hh => False.elim (by revert hh; decide))
    refine mh_bipush (v := (-9)) dX7_findOpened_11 (q := 13) rfl (by decide) ?_
    refine mh_istore_3 dX7_findOpened_13 (q := 14) rfl ?_
    refine mh_aload_0 dX7_findOpened_14 (q := 15) rfl ?_
    refine mh_iload_1 dX7_findOpened_15 (q := 16) rfl ?_
    refine mh_callV1 ca_X7_findOpened_16 (shX7_0 h7) (q := 19) rfl (by simp [Value.category]) ⟨Nat.zero_le _, Nat.zero_le _⟩ ?_
    refine sp_X7_sides h7 (hm.f47 g2) ?_
    refine mh_istore_4 dX7_findOpened_19 (q := 21) rfl ?_
    refine mh_iconst_1 dX7_findOpened_21 (q := 22) rfl ?_
    refine mh_istore_5 dX7_findOpened_22 (q := 24) rfl ?_
    refine mh_iload_5 dX7_findOpened_24 (q := 26) rfl ?_
    refine mh_iconst_3 dX7_findOpened_26 (q := 27) rfl ?_
    refine mh_icmp_ge dX7_findOpened_27 (tgt := 238) (q := 30) rfl rfl (fun hh => False.elim (by revert hh; decide)) (fun _ => ?_)
    refine mh_iload_3 dX7_findOpened_30 (q := 31) rfl ?_
    refine mh_bipush (v := (-9)) dX7_findOpened_31 (q := 33) rfl (by decide) ?_
    refine mh_icmp_ne dX7_findOpened_33 (tgt := 238) (q := 36) rfl rfl (fun hh => False.elim (by revert hh; decide)) (fun _ => ?_)
    refine mh_iconst_0 dX7_findOpened_36 (q := 37) rfl ?_
    refine mh_istore_6 dX7_findOpened_37 (q := 39) rfl ?_
    have hf2 : frT I (I 27) I2 := ⟨fun b y e1 e2 => g2 b y e1, fun y => g2 _ y (by decide)⟩
    refine lp_X7_fOA1 h7 hm hk h1 hn z (gSides w h) 0 F I2 _ _ _ (Nat.zero_add _) hf2 (fun u hu => absurd hu (Nat.not_lt_zero u)) (fun x2 F3 I3 p6 p7 p8 p9 e1 e2 e3 e4 hf3 => ?_) (fun I3 p6 p7 p8 p9 hs1 hf3 => ?_)
    · skip
      refine mh_iinc_5 (v := 1) dX7_findOpened_232 (q := 235) rfl (by decide) ?_
      refine mh_goto dX7_findOpened_235 (tgt := 24) rfl ?_
      refine mh_iload_5 dX7_findOpened_24 (q := 26) rfl ?_
      refine mh_iconst_3 dX7_findOpened_26 (q := 27) rfl ?_
      refine mh_icmp_ge dX7_findOpened_27 (tgt := 238) (q := 30) rfl rfl (fun hh => absurd hh (show ¬ (3 : Int32) ≤ 1 + 1 by decide)) (fun _ => ?_)
      refine mh_iload_3 dX7_findOpened_30 (q := 31) rfl ?_
      refine mh_bipush (v := (-9)) dX7_findOpened_31 (q := 33) rfl (by decide) ?_
      refine mh_icmp_ne dX7_findOpened_33 (tgt := 238) (q := 36) rfl rfl (fun _ => ?_) (fun hh => False.elim (by revert hh; decide))
      refine mh_iload_3 dX7_findOpened_238 (q := 239) rfl ?_
      refine mh_ireturn dX7_findOpened_239 rfl rfl ?_
      exact hΦ 1 (nI x2) (-9) _ I3 (Or.inr (Or.inl ⟨z, x2, e1, e2, e3, rfl, rfl, rfl⟩)) (fun _ => by rw [e4]; exact mhUF_at) (fun e => absurd e (by decide)) (fun b k e => by rw [e4, mhUF_nk (by omega)]) hf3.back
    · skip
      refine mh_iinc_5 (v := 1) dX7_findOpened_232 (q := 235) rfl (by decide) ?_
      refine mh_goto dX7_findOpened_235 (tgt := 24) rfl ?_
      refine mh_iload_5 dX7_findOpened_24 (q := 26) rfl ?_
      refine mh_iconst_3 dX7_findOpened_26 (q := 27) rfl ?_
      refine mh_icmp_ge dX7_findOpened_27 (tgt := 238) (q := 30) rfl rfl (fun hh => absurd hh (show ¬ (3 : Int32) ≤ 1 + 1 by decide)) (fun _ => ?_)
      refine mh_iload_3 dX7_findOpened_30 (q := 31) rfl ?_
      refine mh_bipush (v := (-9)) dX7_findOpened_31 (q := 33) rfl (by decide) ?_
      refine mh_icmp_ne dX7_findOpened_33 (tgt := 238) (q := 36) rfl rfl (fun hh => False.elim (by revert hh; decide)) (fun _ => ?_)
      refine mh_iconst_0 dX7_findOpened_36 (q := 37) rfl ?_
      refine mh_istore_6 dX7_findOpened_37 (q := 39) rfl ?_
      refine lp_X7_fOA2 h7 hm hk h1 hn z hs1 (gSides w h) 0 F I3 _ _ _ (Nat.zero_add _) hf3 (fun u v _ _ q => absurd q (Nat.not_lt_zero u)) (fun x2 y2 F4 I4 p6 p7 p8 p9 e1 e2 e3 e4 e5 hf4 => ?_) (fun I4 p6 p7 p8 p9 hs2 hf4 => ?_)
      · skip
        refine mh_iinc_5 (v := 1) dX7_findOpened_232 (q := 235) rfl (by decide) ?_
        refine mh_goto dX7_findOpened_235 (tgt := 24) rfl ?_
        refine mh_iload_5 dX7_findOpened_24 (q := 26) rfl ?_
        refine mh_iconst_3 dX7_findOpened_26 (q := 27) rfl ?_
        refine mh_icmp_ge dX7_findOpened_27 (tgt := 238) (q := 30) rfl rfl (fun _ => ?_) (fun hh => absurd (show (3 : Int32) ≤ 2 + 1 by decide) hh)
        refine mh_iload_3 dX7_findOpened_238 (q := 239) rfl ?_
        refine mh_ireturn dX7_findOpened_239 rfl rfl ?_
        exact hΦ 2 (nI x2) (nI y2) _ I4 (Or.inr (Or.inr (Or.inl ⟨z, hs1, x2, y2, e1, e2, e3, e4, rfl, rfl, rfl⟩))) (fun e => absurd e (by decide)) (fun _ => by rw [e5]; exact ⟨(mhUF_nk (by decide)).trans mhUF_at, mhUF_at⟩) (fun b k e => by rw [e5]; repeat rw [mhUF_nk (by omega)]) hf4.back
      · skip
        refine mh_iinc_5 (v := 1) dX7_findOpened_232 (q := 235) rfl (by decide) ?_
        refine mh_goto dX7_findOpened_235 (tgt := 24) rfl ?_
        refine mh_iload_5 dX7_findOpened_24 (q := 26) rfl ?_
        refine mh_iconst_3 dX7_findOpened_26 (q := 27) rfl ?_
        refine mh_icmp_ge dX7_findOpened_27 (tgt := 238) (q := 30) rfl rfl (fun _ => ?_) (fun hh => absurd (show (3 : Int32) ≤ 2 + 1 by decide) hh)
        refine mh_iload_3 dX7_findOpened_238 (q := 239) rfl ?_
        refine mh_ireturn dX7_findOpened_239 rfl rfl ?_
        exact hΦ (-9) (-9) (-9) F I4 (Or.inr (Or.inr (Or.inr ⟨z, hs1, fun u v q1 q2 => hs2 u v q1 q2 (by omega), rfl, rfl, rfl⟩))) (fun e => absurd e (by decide)) (fun e => absurd e (by decide)) (fun _ _ _ => rfl) hf4.back
set_option maxHeartbeats 4000000 in
set_option maxRecDepth 100000 in
theorem sp_X7_opened {l : Launch} {K : mhX} {Φ : mhQ} {S : List mhS} {F : mhF} {I : mhI} {J : mhJ} {P : mhP} {nh : Nat} {wd hg : Nat → Nat} (hM : mhHR S F I nh wd hg) {kd : Nat → Nat → Int32} (hK : ∀ j, j < nh → mhKn I j (wd j) (hg j) (kd j)) {x d k : Int32} (hn : ¬ (vHs nh x ∧ (-1 ≤ k ∧ k ≤ 1)) → Φ (some (.int (-1))) S F I J P) (hb : (vHs nh x ∧ (-1 ≤ k ∧ k ≤ 1)) → ¬ (1 ≤ d ∧ d ≤ 30) → Φ (some (.int (-2))) S F I J P) (ht : ∀ j n, j < nh → x = nI j → d = nI n → (-1 ≤ k ∧ k ≤ 1) → (1 ≤ d ∧ d ≤ 30) → n < 1000 → ∀ (m A B : Int32) (F2 : mhF) (I2 : mhI), opA (wd j) (hg j) (kd j) n m A B → (∀ b k, ¬ (b = 21 ∧ 39 ≤ k ∧ k < 41) → F2 b k = F b k) → fr47 I I2 → Φ (some (.int (opR m A B k))) S F2 I2 J P) : mhOk l K mX7_opened [.ref 21, .int x, .int d, .int k] S F I J P Φ := by
  refine mhOk.of (by decide) (by decide) rfl (Nat.le_of_ble_eq_true rfl) ?_
  refine mh_aload_0 dX7_opened_0 (q := 1) rfl ?_
  refine mh_iload_1 dX7_opened_1 (q := 2) rfl ?_
  refine mh_callV1 ca_X7_opened_2 (shX7_0 hM.1) (q := 5) rfl (by simp [Value.category]) ⟨Nat.zero_le _, Nat.zero_le _⟩ ?_
  refine sp_X7_isHouse hM (fun j hj ej => ?_) (fun hk => ?_)
  · skip
    subst ej
    refine mh_if_eq dX7_opened_5 (tgt := 17) (q := 8) rfl rfl (fun hh => False.elim (by revert hh; decide)) (fun _ => ?_)
    refine mh_iload_3 dX7_opened_8 (q := 9) rfl ?_
    refine mh_iconst_m1 dX7_opened_9 (q := 10) rfl ?_
    refine mh_iconst_1 dX7_opened_10 (q := 11) rfl ?_
    refine mh_callS3 ca_X7_opened_11 (q := 14) rfl (by simp [Value.category]) ⟨Nat.zero_le _, Nat.zero_le _⟩ ?_
    refine sp_X7_within (fun ck => ?_) (fun ck => ?_)
    · skip
      refine mh_if_ne dX7_opened_14 (tgt := 19) (q := 17) rfl rfl (fun _ => ?_) (fun hh => False.elim (by revert hh; decide))
      refine mh_iload_2 dX7_opened_19 (q := 20) rfl ?_
      refine mh_iconst_1 dX7_opened_20 (q := 21) rfl ?_
      refine mh_bipush (v := 30) dX7_opened_21 (q := 23) rfl (by decide) ?_
      refine mh_callS3 ca_X7_opened_23 (q := 26) rfl (by simp [Value.category]) ⟨Nat.zero_le _, Nat.zero_le _⟩ ?_
      refine sp_X7_within (fun cd => ?_) (fun cd => ?_)
      · skip
        refine mh_if_ne dX7_opened_26 (tgt := 32) (q := 29) rfl rfl (fun _ => ?_) (fun hh => False.elim (by revert hh; decide))
        refine mh_aload_0 dX7_opened_32 (q := 33) rfl ?_
        refine mh_iload_1 dX7_opened_33 (q := 34) rfl ?_
        refine mh_iload_2 dX7_opened_34 (q := 35) rfl ?_
        refine mh_callV2 ca_X7_opened_35 (shX7_0 hM.1) (q := 38) rfl (by simp [Value.category]) ⟨Nat.zero_le _, Nat.zero_le _⟩ ?_
        obtain ⟨n, hn1, hn2, rfl⟩ := mh_n30 cd
        refine sp_X7_findOpened hM.1 (hM.2.2.2 j hj) (hK j hj) hn1 (by omega) (fun m A B F2 I2 e1 e2 e3 e4 e5 => ?_)
        refine mh_istore_4 dX7_opened_38 (q := 40) rfl ?_
        refine mh_iload_3 dX7_opened_40 (q := 41) rfl ?_
        refine mh_iconst_m1 dX7_opened_41 (q := 42) rfl ?_
        refine mh_icmp_ne dX7_opened_42 (tgt := 48) (q := 45) rfl rfl (fun c42 => ?_) (fun c42 => ?_)
        · skip
          refine mh_iload_4 dX7_opened_48 (q := 50) rfl ?_
          refine mh_bipush (v := (-9)) dX7_opened_50 (q := 52) rfl (by decide) ?_
          refine mh_icmp_eq dX7_opened_52 (tgt := 61) (q := 55) rfl rfl (fun c52 => ?_) (fun c52 => ?_)
          · skip
            refine mh_bipush (v := (-9)) dX7_opened_61 (q := 63) rfl (by decide) ?_
            refine mh_goto dX7_opened_63 (tgt := 81) rfl ?_
            refine mh_ireturn dX7_opened_81 rfl rfl ?_
            refine mh_cl (ht j n hj rfl rfl ck cd (by omega) m A B F2 I2 e1 e4 e5) ?_
            rcases e1 with ⟨a1, rfl, rfl, rfl⟩ | ⟨a1, x1, b1, c1, d1, rfl, rfl, rfl⟩ | ⟨a1, b1, x1, y1, c1, d1, f1, g1, rfl, rfl, rfl⟩ | ⟨a1, b1, c1, rfl, rfl, rfl⟩
            · grind [opR]
            · have t1 := e2 rfl
              grind [opR]
            · have t1 := e3 rfl
              grind [opR]
            · grind [opR]
          · skip
            refine mh_iload_3 dX7_opened_55 (q := 56) rfl ?_
            refine mh_iload_4 dX7_opened_56 (q := 58) rfl ?_
            refine mh_icmp_lt dX7_opened_58 (tgt := 66) (q := 61) rfl rfl (fun c58 => ?_) (fun c58 => ?_)
            · skip
              refine mh_iload_3 dX7_opened_66 (q := 67) rfl ?_
              refine mh_if_ne dX7_opened_67 (tgt := 77) (q := 70) rfl rfl (fun c67 => ?_) (fun c67 => ?_)
              · skip
                refine mh_aload_0 dX7_opened_77 (q := 78) rfl ?_
                refine mh_getI fl_X7_249 dX7_opened_78 (q := 81) rfl (shX7_0 hM.1) rfl ?_
                refine mh_ireturn dX7_opened_81 rfl rfl ?_
                refine mh_cl (ht j n hj rfl rfl ck cd (by omega) m A B F2 I2 e1 e4 e5) ?_
                rcases e1 with ⟨a1, rfl, rfl, rfl⟩ | ⟨a1, x1, b1, c1, d1, rfl, rfl, rfl⟩ | ⟨a1, b1, x1, y1, c1, d1, f1, g1, rfl, rfl, rfl⟩ | ⟨a1, b1, c1, rfl, rfl, rfl⟩
                · grind [opR]
                · have t1 := e2 rfl
                  grind [opR]
                · have t1 := e3 rfl
                  grind [opR]
                · grind [opR]
              · skip
                refine mh_aload_0 dX7_opened_70 (q := 71) rfl ?_
                refine mh_getI fl_X7_246 dX7_opened_71 (q := 74) rfl (shX7_0 hM.1) rfl ?_
                refine mh_goto dX7_opened_74 (tgt := 81) rfl ?_
                refine mh_ireturn dX7_opened_81 rfl rfl ?_
                refine mh_cl (ht j n hj rfl rfl ck cd (by omega) m A B F2 I2 e1 e4 e5) ?_
                rcases e1 with ⟨a1, rfl, rfl, rfl⟩ | ⟨a1, x1, b1, c1, d1, rfl, rfl, rfl⟩ | ⟨a1, b1, x1, y1, c1, d1, f1, g1, rfl, rfl, rfl⟩ | ⟨a1, b1, c1, rfl, rfl, rfl⟩
                · grind [opR]
                · have t1 := e2 rfl
                  grind [opR]
                · have t1 := e3 rfl
                  grind [opR]
                · grind [opR]
            · skip
              refine mh_bipush (v := (-9)) dX7_opened_61 (q := 63) rfl (by decide) ?_
              refine mh_goto dX7_opened_63 (tgt := 81) rfl ?_
              refine mh_ireturn dX7_opened_81 rfl rfl ?_
              refine mh_cl (ht j n hj rfl rfl ck cd (by omega) m A B F2 I2 e1 e4 e5) ?_
              rcases e1 with ⟨a1, rfl, rfl, rfl⟩ | ⟨a1, x1, b1, c1, d1, rfl, rfl, rfl⟩ | ⟨a1, b1, x1, y1, c1, d1, f1, g1, rfl, rfl, rfl⟩ | ⟨a1, b1, c1, rfl, rfl, rfl⟩
              · grind [opR]
              · have t1 := e2 rfl
                grind [opR]
              · have t1 := e3 rfl
                grind [opR]
              · grind [opR]
        · skip
          refine mh_iload_4 dX7_opened_45 (q := 47) rfl ?_
          refine mh_ireturn dX7_opened_47 rfl rfl ?_
          refine mh_cl (ht j n hj rfl rfl ck cd (by omega) m A B F2 I2 e1 e4 e5) ?_
          rcases e1 with ⟨a1, rfl, rfl, rfl⟩ | ⟨a1, x1, b1, c1, d1, rfl, rfl, rfl⟩ | ⟨a1, b1, x1, y1, c1, d1, f1, g1, rfl, rfl, rfl⟩ | ⟨a1, b1, c1, rfl, rfl, rfl⟩
          · grind [opR]
          · have t1 := e2 rfl
            grind [opR]
          · have t1 := e3 rfl
            grind [opR]
          · grind [opR]
      · skip
        refine mh_if_ne dX7_opened_26 (tgt := 32) (q := 29) rfl rfl (fun hh => False.elim (by revert hh; decide)) (fun _ => ?_)
        refine mh_bipush (v := (-2)) dX7_opened_29 (q := 31) rfl (by decide) ?_
        refine mh_ireturn dX7_opened_31 rfl rfl ?_
        exact hb ⟨⟨j, hj, rfl⟩, ck⟩ cd
    · skip
      refine mh_if_ne dX7_opened_14 (tgt := 19) (q := 17) rfl rfl (fun hh => False.elim (by revert hh; decide)) (fun _ => ?_)
      refine mh_iconst_m1 dX7_opened_17 (q := 18) rfl ?_
      refine mh_ireturn dX7_opened_18 rfl rfl ?_
      exact hn (fun z => by first | exact hk z.1 | exact ck z.2)
  · skip
    refine mh_if_eq dX7_opened_5 (tgt := 17) (q := 8) rfl rfl (fun _ => ?_) (fun hh => False.elim (by revert hh; decide))
    refine mh_iconst_m1 dX7_opened_17 (q := 18) rfl ?_
    refine mh_ireturn dX7_opened_18 rfl rfl ?_
    exact hn (fun z => by first | exact hk z.1 | exact ck z.2)
