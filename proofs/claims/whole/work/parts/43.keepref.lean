/-! keeps: the reference's call -/
def kpS (I0 : mhI) (j n : Nat) (tl : Nat → Nat) (I : mhI) : Prop := (∀ b y, b ≠ 47 → b ≠ 27 → b ≠ 48 → I b y = I0 b y) ∧ (∀ y, (∀ x, x < n → y ≠ nI (50 * j + tl x)) → I 27 y = I0 27 y) ∧ ∀ x, x < n → I 48 (nI x) = I0 27 (nI (50 * j + tl x))
theorem kpS.f47 {I0 I I2 : mhI} {j n : Nat} {tl : Nat → Nat} (h : kpS I0 j n tl I) (h2 : fr47 I I2) : kpS I0 j n tl I2 := ⟨fun b y e1 e2 e3 => (h2 b y e1).trans (h.1 b y e1 e2 e3), fun y hy => (h2 _ _ (by decide)).trans (h.2.1 y hy), fun x hx => (h2 _ _ (by decide)).trans (h.2.2 x hx)⟩
theorem kpS.up {I0 I : mhI} {j n q : Nat} {tl : Nat → Nat} {v : Int32} (h : kpS I0 j n tl I) (hq : q < n) : kpS I0 j n tl (mhUI I 27 (nI (50 * j + tl q)) v) := ⟨fun b y e1 e2 e3 => (mhUI_ne e2).trans (h.1 b y e1 e2 e3), fun y hy => (if_neg (fun e => hy q hq e.2)).trans (h.2.1 y hy), fun x hx => (mhUI_ne (by decide)).trans (h.2.2 x hx)⟩
theorem kpS.hm {I0 I : mhI} {j n w h : Nat} {tl : Nat → Nat} (hf : kpS I0 j n tl I) (H : mhHm I0 j w h) : mhHm I j w h := ⟨H.1, H.2.1, (hf.1 _ _ (by decide) (by decide) (by decide)).trans H.2.2.1, (hf.1 _ _ (by decide) (by decide) (by decide)).trans H.2.2.2⟩
set_option maxHeartbeats 4000000 in
set_option maxRecDepth 100000 in
theorem lp_X7_keepA {l : Launch} {K : mhX} {kc ks : Nat} {Φ : mhQ} {S : List mhS} {J : mhJ} {P : mhP} {F : mhF} {I0 : mhI} {nh : Nat} {wd hg : Nat → Nat} (hM : mhHR S F I0 nh wd hg) {j js r c n ii : Nat} {what : Int32} {cl : Nat → Int32} (hj : j < nh) (hjs : js < 4) (hcl : ∀ c, c < 60 → I0 24 (nI (60 * js + c)) = cl c) (hin : ii + n ≤ 60) {o4 o5 o6 o9 : Option Value} (hs : ¬ allS (wd j) (hg j) cl ii n → Φ (some (.int (-1))) S F I0 J P) (hΦ : allS (wd j) (hg j) cl ii n → mhV l K mX7_keeps kc ks Φ 140 [some (.ref 21), some (.int (nI j)), some (.int (nI r)), some (.int (nI c)), o4, o5, o6, some (.int (nI n)), some (.int what), o9, some (.int (nI (60 * js + ii))), some (.int (nI n)), none, none, none] [] S F I0 J P) : ∀ (m q : Nat), q + m = n → (∀ x, x < q → vSd (wd j) (hg j) (cl (ii + x))) → mhV l K mX7_keeps kc ks Φ 107 [some (.ref 21), some (.int (nI j)), some (.int (nI r)), some (.int (nI c)), o4, o5, o6, some (.int (nI n)), some (.int what), o9, some (.int (nI (60 * js + ii))), some (.int (nI q)), none, none, none] [] S F I0 J P := by
  have h3 := hM.2.1
  intro m
  induction m with
  | zero =>
    intro q hq hx
    obtain rfl : q = n := by omega
    refine mh_iload_11 dX7_keeps_107 (q := 109) rfl ?_
    refine mh_iload_7 dX7_keeps_109 (q := 111) rfl ?_
    refine mh_icmp_ge dX7_keeps_111 (tgt := 140) (q := 114) rfl rfl (fun _ => ?_) (fun hh => absurd (nI_le (Nat.le_refl _) (by omega)) hh)
    exact hΦ hx
  | succ m ih =>
    intro q hq hx
    refine mh_iload_11 dX7_keeps_107 (q := 109) rfl ?_
    refine mh_iload_7 dX7_keeps_109 (q := 111) rfl ?_
    refine mh_icmp_ge dX7_keeps_111 (tgt := 140) (q := 114) rfl rfl (fun hh => absurd hh (nI_ge (by omega) (by omega))) (fun _ => ?_)
    refine mh_aload_0 dX7_keeps_114 (q := 115) rfl ?_
    refine mh_iload_1 dX7_keeps_115 (q := 116) rfl ?_
    refine mh_aload_0 dX7_keeps_116 (q := 117) rfl ?_
    refine mh_getR fl_X7_16 dX7_keeps_117 (q := 120) rfl (shX7_0 hM.1) rfl ?_
    refine mh_iload_10 dX7_keeps_120 (q := 122) rfl ?_
    refine mh_iload_11 dX7_keeps_122 (q := 124) rfl ?_
    refine mh_iadd dX7_keeps_124 (q := 125) rfl ?_
    rw [nI_add]
    refine mh_iald dX7_keeps_125 (q := 126) rfl (shX7_3 hM.1) (vp_in_nI (by omega) (by decide)) ?_
    rw [Nat.add_assoc, hcl _ (by omega)]
    refine mh_callV2 ca_X7_keeps_126 (shX7_0 hM.1) (q := 129) rfl (by simp [Value.category]) ⟨Nat.zero_le _, Nat.zero_le _⟩ ?_
    refine sp_X7_isSide hM (fun j2 t hj2 ht ej et => ?_) (fun hk => ?_)
    · skip
      have ej3 := (nI_eq (by omega) (by omega)).mp ej
      subst ej3
      refine mh_if_ne dX7_keeps_129 (tgt := 134) (q := 132) rfl rfl (fun _ => ?_) (fun hh => False.elim (by revert hh; decide))
      refine mh_iinc_11 (v := 1) dX7_keeps_134 (q := 137) rfl (by decide) ?_
      refine mh_goto dX7_keeps_137 (tgt := 107) rfl ?_
      rw [nI_1]
      exact ih (q + 1) (by omega) (fun x hx2 => by
        rcases Nat.lt_or_ge x q with u | u
        · exact hx x u
        · rw [show x = q by omega]; exact ⟨t, ht, et⟩)
    · skip
      refine mh_if_ne dX7_keeps_129 (tgt := 134) (q := 132) rfl rfl (fun hh => False.elim (by revert hh; decide)) (fun _ => ?_)
      refine mh_iconst_m1 dX7_keeps_132 (q := 133) rfl ?_
      refine mh_ireturn dX7_keeps_133 rfl rfl ?_
      exact hs (fun z => hk ⟨j, hj, rfl, z q (by omega)⟩)
set_option maxHeartbeats 4000000 in
set_option maxRecDepth 100000 in
theorem lp_X7_keepB2 {l : Launch} {K : mhX} {kc ks : Nat} {Φ : mhQ} {S : List mhS} {J : mhJ} {P : mhP} {F : mhF} {I0 : mhI} (h7 : mhKX7 S) {j js r c n ii : Nat} {what : Int32} {cl : Nat → Int32} (hjs : js < 4) (hcl : ∀ c, c < 60 → I0 24 (nI (60 * js + c)) = cl c) (hin : ii + n ≤ 60) {o4 o5 o6 o9 : Option Value} (hl : likS cl ii n → Φ (some (.int (-2))) S F I0 J P) {q : Nat} (hqn : q < n) (hΦ : (∀ y, y < q → ¬ cl (ii + y) = cl (ii + q)) → mhV l K mX7_keeps kc ks Φ 192 [some (.ref 21), some (.int (nI j)), some (.int (nI r)), some (.int (nI c)), o4, o5, o6, some (.int (nI n)), some (.int what), o9, some (.int (nI (60 * js + ii))), some (.int (nI q)), some (.int (nI q)), none, none] [] S F I0 J P) : ∀ (m y : Nat), y + m = q → (∀ z, z < y → ¬ cl (ii + z) = cl (ii + q)) → mhV l K mX7_keeps kc ks Φ 153 [some (.ref 21), some (.int (nI j)), some (.int (nI r)), some (.int (nI c)), o4, o5, o6, some (.int (nI n)), some (.int what), o9, some (.int (nI (60 * js + ii))), some (.int (nI q)), some (.int (nI y)), none, none] [] S F I0 J P := by
  intro m
  induction m with
  | zero =>
    intro y hy hz
    obtain rfl : y = q := by omega
    refine mh_iload_12 dX7_keeps_153 (q := 155) rfl ?_
    refine mh_iload_11 dX7_keeps_155 (q := 157) rfl ?_
    refine mh_icmp_ge dX7_keeps_157 (tgt := 192) (q := 160) rfl rfl (fun _ => ?_) (fun hh => absurd (nI_le (Nat.le_refl _) (by omega)) hh)
    exact hΦ hz
  | succ m ih =>
    intro y hy hz
    refine mh_iload_12 dX7_keeps_153 (q := 155) rfl ?_
    refine mh_iload_11 dX7_keeps_155 (q := 157) rfl ?_
    refine mh_icmp_ge dX7_keeps_157 (tgt := 192) (q := 160) rfl rfl (fun hh => absurd hh (nI_ge (by omega) (by omega))) (fun _ => ?_)
    refine mh_aload_0 dX7_keeps_160 (q := 161) rfl ?_
    refine mh_getR fl_X7_16 dX7_keeps_161 (q := 164) rfl (shX7_0 h7) rfl ?_
    refine mh_iload_10 dX7_keeps_164 (q := 166) rfl ?_
    refine mh_iload_11 dX7_keeps_166 (q := 168) rfl ?_
    refine mh_iadd dX7_keeps_168 (q := 169) rfl ?_
    rw [nI_add]
    refine mh_iald dX7_keeps_169 (q := 170) rfl (shX7_3 h7) (vp_in_nI (by omega) (by decide)) ?_
    rw [Nat.add_assoc, hcl _ (by omega)]
    refine mh_aload_0 dX7_keeps_170 (q := 171) rfl ?_
    refine mh_getR fl_X7_16 dX7_keeps_171 (q := 174) rfl (shX7_0 h7) rfl ?_
    refine mh_iload_10 dX7_keeps_174 (q := 176) rfl ?_
    refine mh_iload_12 dX7_keeps_176 (q := 178) rfl ?_
    refine mh_iadd dX7_keeps_178 (q := 179) rfl ?_
    rw [nI_add]
    refine mh_iald dX7_keeps_179 (q := 180) rfl (shX7_3 h7) (vp_in_nI (by omega) (by decide)) ?_
    rw [Nat.add_assoc, hcl _ (by omega)]
    refine mh_icmp_ne dX7_keeps_180 (tgt := 186) (q := 183) rfl rfl (fun c180 => ?_) (fun c180 => ?_)
    · skip
      refine mh_iinc_12 (v := 1) dX7_keeps_186 (q := 189) rfl (by decide) ?_
      refine mh_goto dX7_keeps_189 (tgt := 153) rfl ?_
      rw [nI_1]
      exact ih (y + 1) (by omega) (fun z h2 => by
        rcases Nat.lt_or_ge z y with u | u
        · exact hz z u
        · rw [show z = y by omega]; exact fun e => c180 e.symm)
    · skip
      refine mh_bipush (v := (-2)) dX7_keeps_183 (q := 185) rfl (by decide) ?_
      refine mh_ireturn dX7_keeps_185 rfl rfl ?_
      exact hl ⟨y, q, by omega, hqn, c180.symm⟩
set_option maxHeartbeats 4000000 in
set_option maxRecDepth 100000 in
theorem lp_X7_keepB {l : Launch} {K : mhX} {kc ks : Nat} {Φ : mhQ} {S : List mhS} {J : mhJ} {P : mhP} {F : mhF} {I0 : mhI} (h7 : mhKX7 S) {j js r c n ii : Nat} {what : Int32} {cl : Nat → Int32} (hjs : js < 4) (hcl : ∀ c, c < 60 → I0 24 (nI (60 * js + c)) = cl c) (hin : ii + n ≤ 60) {o4 o5 o6 o9 : Option Value} (hl : likS cl ii n → Φ (some (.int (-2))) S F I0 J P) (hΦ : ¬ likS cl ii n → ∀ o12, mhV l K mX7_keeps kc ks Φ 198 [some (.ref 21), some (.int (nI j)), some (.int (nI r)), some (.int (nI c)), o4, o5, o6, some (.int (nI n)), some (.int what), o9, some (.int (nI (60 * js + ii))), some (.int (nI n)), o12, none, none] [] S F I0 J P) : ∀ (m q : Nat) (o12 : Option Value), q + m = n → (∀ x y, x < y → y < q → ¬ cl (ii + x) = cl (ii + y)) → mhV l K mX7_keeps kc ks Φ 143 [some (.ref 21), some (.int (nI j)), some (.int (nI r)), some (.int (nI c)), o4, o5, o6, some (.int (nI n)), some (.int what), o9, some (.int (nI (60 * js + ii))), some (.int (nI q)), o12, none, none] [] S F I0 J P := by
  intro m
  induction m with
  | zero =>
    intro q o12 hq hx
    obtain rfl : q = n := by omega
    refine mh_iload_11 dX7_keeps_143 (q := 145) rfl ?_
    refine mh_iload_7 dX7_keeps_145 (q := 147) rfl ?_
    refine mh_icmp_ge dX7_keeps_147 (tgt := 198) (q := 150) rfl rfl (fun _ => ?_) (fun hh => absurd (nI_le (Nat.le_refl _) (by omega)) hh)
    exact hΦ (fun ⟨x, y, z1, z2, z3⟩ => hx x y z1 z2 z3) _
  | succ m ih =>
    intro q o12 hq hx
    refine mh_iload_11 dX7_keeps_143 (q := 145) rfl ?_
    refine mh_iload_7 dX7_keeps_145 (q := 147) rfl ?_
    refine mh_icmp_ge dX7_keeps_147 (tgt := 198) (q := 150) rfl rfl (fun hh => absurd hh (nI_ge (by omega) (by omega))) (fun _ => ?_)
    refine mh_iconst_0 dX7_keeps_150 (q := 151) rfl ?_
    refine mh_istore_12 dX7_keeps_151 (q := 153) rfl ?_
    refine lp_X7_keepB2 h7 hjs hcl hin hl (q := q) (by omega) (fun hz => ?_) q 0 (Nat.zero_add _) (fun z h2 => absurd h2 (Nat.not_lt_zero z))
    refine mh_iinc_11 (v := 1) dX7_keeps_192 (q := 195) rfl (by decide) ?_
    refine mh_goto dX7_keeps_195 (tgt := 143) rfl ?_
    rw [nI_1]
    exact ih (q + 1) _ (by omega) (fun x y z1 z2 => by
      rcases Nat.lt_or_ge y q with u | u
      · exact hx x y z1 u
      · obtain rfl : y = q := by omega
        exact hz x z1)
set_option maxHeartbeats 4000000 in
set_option maxRecDepth 100000 in
theorem lp_X7_keepC {l : Launch} {K : mhX} {kc ks : Nat} {Φ : mhQ} {S : List mhS} {J : mhJ} {P : mhP} {F : mhF} {I0 : mhI} (h7 : mhKX7 S) {j js r c n ii w h : Nat} {what : Int32} {cl : Nat → Int32} (hm : mhHm I0 j w h) (hjs : js < 4) (hcl : ∀ c, c < 60 → I0 24 (nI (60 * js + c)) = cl c) (hin : ii + n ≤ 60) (hn : n ≤ 8) {tl : Nat → Nat} (htl : ∀ x, x < n → tl x < gSides w h ∧ cl (ii + x) = nI (tl x)) {o4 o5 o6 o9 : Option Value} {o12 : Option Value} (hΦ : ∀ I, kpS I0 j n tl I → (∀ y, I 27 y = I0 27 y) → mhV l K mX7_keeps kc ks Φ 241 [some (.ref 21), some (.int (nI j)), some (.int (nI r)), some (.int (nI c)), o4, o5, o6, some (.int (nI n)), some (.int what), o9, some (.int (nI (60 * js + ii))), some (.int (nI n)), o12, none, none] [] S F I J P) : ∀ (m q : Nat) (I : mhI), q + m = n → (∀ b y, b ≠ 48 → I b y = I0 b y) → (∀ x, x < q → I 48 (nI x) = I0 27 (nI (50 * j + tl x))) → mhV l K mX7_keeps kc ks Φ 201 [some (.ref 21), some (.int (nI j)), some (.int (nI r)), some (.int (nI c)), o4, o5, o6, some (.int (nI n)), some (.int what), o9, some (.int (nI (60 * js + ii))), some (.int (nI q)), o12, none, none] [] S F I J P := by
  have hbd := gBd hm.2.1
  have hj := hm.1
  intro m
  induction m with
  | zero =>
    intro q I hq hf hx
    obtain rfl : q = n := by omega
    refine mh_iload_11 dX7_keeps_201 (q := 203) rfl ?_
    refine mh_iload_7 dX7_keeps_203 (q := 205) rfl ?_
    refine mh_icmp_ge dX7_keeps_205 (tgt := 241) (q := 208) rfl rfl (fun _ => ?_) (fun hh => absurd (nI_le (Nat.le_refl _) (by omega)) hh)
    exact hΦ I ⟨fun b y _ _ e => hf b y e, fun y _ => hf _ y (by decide), hx⟩ (fun y => hf _ y (by decide))
  | succ m ih =>
    intro q I hq hf hx
    obtain ⟨t1, t2⟩ := htl q (by omega)
    refine mh_iload_11 dX7_keeps_201 (q := 203) rfl ?_
    refine mh_iload_7 dX7_keeps_203 (q := 205) rfl ?_
    refine mh_icmp_ge dX7_keeps_205 (tgt := 241) (q := 208) rfl rfl (fun hh => absurd hh (nI_ge (by omega) (by omega))) (fun _ => ?_)
    refine mh_aload_0 dX7_keeps_208 (q := 209) rfl ?_
    refine mh_getR fl_X7_89 dX7_keeps_209 (q := 212) rfl (shX7_0 h7) rfl ?_
    refine mh_iload_11 dX7_keeps_212 (q := 214) rfl ?_
    refine mh_aload_0 dX7_keeps_214 (q := 215) rfl ?_
    refine mh_getR fl_X7_25 dX7_keeps_215 (q := 218) rfl (shX7_0 h7) rfl ?_
    refine mh_bipush (v := 50) dX7_keeps_218 (q := 220) rfl (by decide) ?_
    refine mh_iload_1 dX7_keeps_220 (q := 221) rfl ?_
    refine mh_imul dX7_keeps_221 (q := 222) rfl ?_
    refine mh_aload_0 dX7_keeps_222 (q := 223) rfl ?_
    refine mh_getR fl_X7_16 dX7_keeps_223 (q := 226) rfl (shX7_0 h7) rfl ?_
    refine mh_iload_10 dX7_keeps_226 (q := 228) rfl ?_
    refine mh_iload_11 dX7_keeps_228 (q := 230) rfl ?_
    refine mh_iadd dX7_keeps_230 (q := 231) rfl ?_
    rw [nI_add]
    refine mh_iald dX7_keeps_231 (q := 232) rfl (shX7_3 h7) (vp_in_nI (by omega) (by decide)) ?_
    rw [hf 24 _ (by decide), Nat.add_assoc, hcl _ (by omega), t2]
    refine mh_iadd dX7_keeps_232 (q := 233) rfl ?_
    refine mh_iald dX7_keeps_233 (q := 234) rfl (shX7_6 h7) (by rw [mh_e50]; exact vp_in_nI (by omega) (by decide)) ?_
    rw [mh_e50, hf 27 _ (by decide)]
    refine mh_iast dX7_keeps_234 (q := 235) rfl (shX7_27 h7) (by decide) (vp_in_nI (by omega) (by decide)) ?_
    refine mh_iinc_11 (v := 1) dX7_keeps_235 (q := 238) rfl (by decide) ?_
    refine mh_goto dX7_keeps_238 (tgt := 201) rfl ?_
    rw [nI_1]
    refine ih (q + 1) _ (by omega) (fun b y e => (mhUI_ne e).trans (hf b y e)) (fun x hx2 => ?_)
    rw [mhUI_at (by omega) (by omega)]
    by_cases e : x = q
    · rw [if_pos ⟨rfl, e⟩, e]
    · rw [if_neg (fun z => e z.2)]; exact hx x (by omega)
set_option maxHeartbeats 4000000 in
set_option maxRecDepth 100000 in
theorem lp_X7_keepE {l : Launch} {K : mhX} {kc ks : Nat} {Φ : mhQ} {S : List mhS} {J : mhJ} {P : mhP} {F : mhF} {I0 : mhI} (h7 : mhKX7 S) {j js r c n ii w h : Nat} {what : Int32} {cl : Nat → Int32} (hm : mhHm I0 j w h) (hjs : js < 4) (hcl : ∀ c, c < 60 → I0 24 (nI (60 * js + c)) = cl c) (hin : ii + n ≤ 60) (hn : n ≤ 8) {tl : Nat → Nat} (htl : ∀ x, x < n → tl x < gSides w h ∧ cl (ii + x) = nI (tl x)) {o4 o5 o6 o9 : Option Value} {o11 o12 : Option Value} {kd : Nat → Int32} {s : Nat} (hΦ : ∀ I, kpS I0 j n tl I → (∀ x, x < gSides w h → ((∃ y, y < n ∧ tl y = x) ∨ (∀ y, y < n → tl y ≠ x)) → I 27 (nI (50 * j + x)) = ksF kd tl (nI s) n x) → mhV l K mX7_keeps kc ks Φ 312 [some (.ref 21), some (.int (nI j)), some (.int (nI r)), some (.int (nI c)), o4, o5, o6, some (.int (nI n)), some (.int what), o9, some (.int (nI (60 * js + ii))), o11, o12, some (.int (nI s)), some (.int (nI n))] [] S F I J P) : ∀ (m q : Nat) (I : mhI), q + m = n → kpS I0 j n tl I → (∀ x, x < gSides w h → ((∃ y, y < q ∧ tl y = x) ∨ (∀ y, y < n → tl y ≠ x)) → I 27 (nI (50 * j + x)) = ksF kd tl (nI s) q x) → mhV l K mX7_keeps kc ks Φ 264 [some (.ref 21), some (.int (nI j)), some (.int (nI r)), some (.int (nI c)), o4, o5, o6, some (.int (nI n)), some (.int what), o9, some (.int (nI (60 * js + ii))), o11, o12, some (.int (nI s)), some (.int (nI q))] [] S F I J P := by
  have hbd := gBd hm.2.1
  have hj := hm.1
  intro m
  induction m with
  | zero =>
    intro q I hq hf hp
    obtain rfl : q = n := by omega
    refine mh_iload_14 dX7_keeps_264 (q := 266) rfl ?_
    refine mh_iload_7 dX7_keeps_266 (q := 268) rfl ?_
    refine mh_icmp_ge dX7_keeps_268 (tgt := 312) (q := 271) rfl rfl (fun _ => ?_) (fun hh => absurd (nI_le (Nat.le_refl _) (by omega)) hh)
    exact hΦ I hf hp
  | succ m ih =>
    intro q I hq hf hp
    obtain ⟨t1, t2⟩ := htl q (by omega)
    refine mh_iload_14 dX7_keeps_264 (q := 266) rfl ?_
    refine mh_iload_7 dX7_keeps_266 (q := 268) rfl ?_
    refine mh_icmp_ge dX7_keeps_268 (tgt := 312) (q := 271) rfl rfl (fun hh => absurd hh (nI_ge (by omega) (by omega))) (fun _ => ?_)
    refine mh_aload_0 dX7_keeps_271 (q := 272) rfl ?_
    refine mh_getR fl_X7_25 dX7_keeps_272 (q := 275) rfl (shX7_0 h7) rfl ?_
    refine mh_bipush (v := 50) dX7_keeps_275 (q := 277) rfl (by decide) ?_
    refine mh_iload_1 dX7_keeps_277 (q := 278) rfl ?_
    refine mh_imul dX7_keeps_278 (q := 279) rfl ?_
    refine mh_aload_0 dX7_keeps_279 (q := 280) rfl ?_
    refine mh_getR fl_X7_16 dX7_keeps_280 (q := 283) rfl (shX7_0 h7) rfl ?_
    refine mh_iload_10 dX7_keeps_283 (q := 285) rfl ?_
    refine mh_iload_14 dX7_keeps_285 (q := 287) rfl ?_
    refine mh_iadd dX7_keeps_287 (q := 288) rfl ?_
    rw [nI_add]
    refine mh_iald dX7_keeps_288 (q := 289) rfl (shX7_3 h7) (vp_in_nI (by omega) (by decide)) ?_
    rw [hf.1 24 _ (by decide) (by decide) (by decide), Nat.add_assoc, hcl _ (by omega), t2]
    refine mh_iadd dX7_keeps_289 (q := 290) rfl ?_
    rw [mh_e50]
    refine mh_iload_13 dX7_keeps_290 (q := 292) rfl ?_
    refine mh_iload_14 dX7_keeps_292 (q := 294) rfl ?_
    refine mh_callS2 ca_X7_keeps_294 (q := 297) rfl (by simp [Value.category]) ⟨Nat.zero_le _, Nat.zero_le _⟩ ?_
    refine sp_X7_has (fun c70 => ?_) (fun c70 => ?_)
    · skip
      refine mh_if_eq dX7_keeps_297 (tgt := 304) (q := 300) rfl rfl (fun hh => False.elim (by revert hh; decide)) (fun _ => ?_)
      refine mh_iconst_2 dX7_keeps_300 (q := 301) rfl ?_
      refine mh_goto dX7_keeps_301 (tgt := 305) rfl ?_
      refine mh_iast dX7_keeps_305 (q := 306) rfl (shX7_6 h7) (by decide) (vp_in_nI (by omega) (by decide)) ?_
      refine mh_iinc_14 (v := 1) dX7_keeps_306 (q := 309) rfl (by decide) ?_
      refine mh_goto dX7_keeps_309 (tgt := 264) rfl ?_
      rw [nI_1]
      have eb : bv (nI s) q = 2 := if_pos c70
      refine ih (q + 1) _ (by omega) (hf.up (by omega)) (fun x hx hxx => ?_)
      rw [mhUI_at (by omega) (by omega)]
      have eu : ksF kd tl (nI s) (q + 1) x = if x = tl q then bv (nI s) q else ksF kd tl (nI s) q x := rfl
      rw [eu, eb]
      by_cases e : x = tl q
      · rw [if_pos ⟨rfl, by omega⟩, if_pos e]
      · rw [if_neg (fun z => e (by omega)), if_neg e]
        refine hp x hx (hxx.imp (fun z => ?_) id)
        obtain ⟨y, y1, y2⟩ := z
        rcases Nat.lt_or_ge y q with u | u
        · exact ⟨y, u, y2⟩
        · rw [show y = q by omega] at y2
          exact absurd y2.symm e
    · skip
      refine mh_if_eq dX7_keeps_297 (tgt := 304) (q := 300) rfl rfl (fun _ => ?_) (fun hh => False.elim (by revert hh; decide))
      refine mh_iconst_1 dX7_keeps_304 (q := 305) rfl ?_
      refine mh_iast dX7_keeps_305 (q := 306) rfl (shX7_6 h7) (by decide) (vp_in_nI (by omega) (by decide)) ?_
      refine mh_iinc_14 (v := 1) dX7_keeps_306 (q := 309) rfl (by decide) ?_
      refine mh_goto dX7_keeps_309 (tgt := 264) rfl ?_
      rw [nI_1]
      have eb : bv (nI s) q = 1 := if_neg c70
      refine ih (q + 1) _ (by omega) (hf.up (by omega)) (fun x hx hxx => ?_)
      rw [mhUI_at (by omega) (by omega)]
      have eu : ksF kd tl (nI s) (q + 1) x = if x = tl q then bv (nI s) q else ksF kd tl (nI s) q x := rfl
      rw [eu, eb]
      by_cases e : x = tl q
      · rw [if_pos ⟨rfl, by omega⟩, if_pos e]
      · rw [if_neg (fun z => e (by omega)), if_neg e]
        refine hp x hx (hxx.imp (fun z => ?_) id)
        obtain ⟨y, y1, y2⟩ := z
        rcases Nat.lt_or_ge y q with u | u
        · exact ⟨y, u, y2⟩
        · rw [show y = q by omega] at y2
          exact absurd y2.symm e
set_option maxHeartbeats 4000000 in
set_option maxRecDepth 100000 in
theorem lp_X7_keepG {l : Launch} {K : mhX} {kc ks : Nat} {Φ : mhQ} {S : List mhS} {J : mhJ} {P : mhP} {F : mhF} {I0 : mhI} (h7 : mhKX7 S) {j js r c n ii w h : Nat} {what : Int32} {cl : Nat → Int32} (hm : mhHm I0 j w h) (hjs : js < 4) (hcl : ∀ c, c < 60 → I0 24 (nI (60 * js + c)) = cl c) (hin : ii + n ≤ 60) (hn : n ≤ 8) {tl : Nat → Nat} (htl : ∀ x, x < n → tl x < gSides w h ∧ cl (ii + x) = nI (tl x)) {o4 o5 o6 o9 : Option Value} {o14 : Option Value} {M B : Int32} (hΦ : ∀ I2 : mhI, (∀ b y, b ≠ 47 → b ≠ 48 → I2 b y = I0 b y) → Φ (some (.int (if what = 0 then M else B))) S F I2 J P) : ∀ (m q : Nat) (I : mhI), q + m = n → kpS I0 j n tl I → (∀ y, (∀ x, q ≤ x → x < n → y ≠ nI (50 * j + tl x)) → I 27 y = I0 27 y) → mhV l K mX7_keeps kc ks Φ 360 [some (.ref 21), some (.int (nI j)), some (.int (nI r)), some (.int (nI c)), o4, o5, o6, some (.int (nI n)), some (.int what), o9, some (.int (nI (60 * js + ii))), some (.int M), some (.int B), some (.int (nI q)), o14] [] S F I J P := by
  have hbd := gBd hm.2.1
  have hj := hm.1
  intro m
  induction m with
  | zero =>
    intro q I hq hf hp
    obtain rfl : q = n := by omega
    have hx := hΦ I (fun b y e1 e2 => by
      by_cases c : b = 27
      · subst c; exact hp y (fun x h1 h2 => by omega)
      · exact hf.1 b y e1 c e2)
    refine mh_iload_13 dX7_keeps_360 (q := 362) rfl ?_
    refine mh_iload_7 dX7_keeps_362 (q := 364) rfl ?_
    refine mh_icmp_ge dX7_keeps_364 (tgt := 400) (q := 367) rfl rfl (fun _ => ?_) (fun hh => absurd (nI_le (Nat.le_refl _) (by omega)) hh)
    refine mh_iload_8 dX7_keeps_400 (q := 402) rfl ?_
    refine mh_if_ne dX7_keeps_402 (tgt := 410) (q := 405) rfl rfl (fun cz => ?_) (fun cz => ?_)
    · skip
      refine mh_iload_12 dX7_keeps_410 (q := 412) rfl ?_
      refine mh_ireturn dX7_keeps_412 rfl rfl ?_
      rw [if_neg cz] at hx
      exact hx
    · skip
      refine mh_iload_11 dX7_keeps_405 (q := 407) rfl ?_
      refine mh_goto dX7_keeps_407 (tgt := 412) rfl ?_
      refine mh_ireturn dX7_keeps_412 rfl rfl ?_
      rw [if_pos cz] at hx
      exact hx
  | succ m ih =>
    intro q I hq hf hp
    obtain ⟨t1, t2⟩ := htl q (by omega)
    refine mh_iload_13 dX7_keeps_360 (q := 362) rfl ?_
    refine mh_iload_7 dX7_keeps_362 (q := 364) rfl ?_
    refine mh_icmp_ge dX7_keeps_364 (tgt := 400) (q := 367) rfl rfl (fun hh => absurd hh (nI_ge (by omega) (by omega))) (fun _ => ?_)
    refine mh_aload_0 dX7_keeps_367 (q := 368) rfl ?_
    refine mh_getR fl_X7_25 dX7_keeps_368 (q := 371) rfl (shX7_0 h7) rfl ?_
    refine mh_bipush (v := 50) dX7_keeps_371 (q := 373) rfl (by decide) ?_
    refine mh_iload_1 dX7_keeps_373 (q := 374) rfl ?_
    refine mh_imul dX7_keeps_374 (q := 375) rfl ?_
    refine mh_aload_0 dX7_keeps_375 (q := 376) rfl ?_
    refine mh_getR fl_X7_16 dX7_keeps_376 (q := 379) rfl (shX7_0 h7) rfl ?_
    refine mh_iload_10 dX7_keeps_379 (q := 381) rfl ?_
    refine mh_iload_13 dX7_keeps_381 (q := 383) rfl ?_
    refine mh_iadd dX7_keeps_383 (q := 384) rfl ?_
    rw [nI_add]
    refine mh_iald dX7_keeps_384 (q := 385) rfl (shX7_3 h7) (vp_in_nI (by omega) (by decide)) ?_
    rw [hf.1 24 _ (by decide) (by decide) (by decide), Nat.add_assoc, hcl _ (by omega), t2]
    refine mh_iadd dX7_keeps_385 (q := 386) rfl ?_
    rw [mh_e50]
    refine mh_aload_0 dX7_keeps_386 (q := 387) rfl ?_
    refine mh_getR fl_X7_89 dX7_keeps_387 (q := 390) rfl (shX7_0 h7) rfl ?_
    refine mh_iload_13 dX7_keeps_390 (q := 392) rfl ?_
    refine mh_iald dX7_keeps_392 (q := 393) rfl (shX7_27 h7) (vp_in_nI (by omega) (by decide)) ?_
    rw [hf.2.2 q (by omega)]
    refine mh_iast dX7_keeps_393 (q := 394) rfl (shX7_6 h7) (by decide) (vp_in_nI (by omega) (by decide)) ?_
    refine mh_iinc_13 (v := 1) dX7_keeps_394 (q := 397) rfl (by decide) ?_
    refine mh_goto dX7_keeps_397 (tgt := 360) rfl ?_
    rw [nI_1]
    refine ih (q + 1) _ (by omega) (hf.up (by omega)) (fun y hy => ?_)
    unfold mhUI
    by_cases e : y = nI (50 * j + tl q)
    · rw [if_pos ⟨rfl, e⟩, e]
    · rw [if_neg (fun z => e z.2)]
      refine hp y (fun x h1 h2 => ?_)
      rcases Nat.lt_or_ge q x with u | u
      · exact hy x u h2
      · rw [show x = q by omega]; exact e
set_option maxHeartbeats 4000000 in
set_option maxRecDepth 100000 in
theorem lp_X7_keepD {l : Launch} {K : mhX} {kc ks : Nat} {Φ : mhQ} {S : List mhS} {J : mhJ} {P : mhP} {F : mhF} {I0 : mhI} (h7 : mhKX7 S) {j js r c n ii w h : Nat} {what : Int32} {cl : Nat → Int32} (hm : mhHm I0 j w h) (hjs : js < 4) (hcl : ∀ c, c < 60 → I0 24 (nI (60 * js + c)) = cl c) (hin : ii + n ≤ 60) (hn : n ≤ 8) {tl : Nat → Nat} (htl : ∀ x, x < n → tl x < gSides w h ∧ cl (ii + x) = nI (tl x)) {o4 o5 o6 o9 : Option Value} {kd : Nat → Int32} (hk : mhKn I0 j w h kd) (hr : r < gRooms w h) (hc : c < 3) (hΦ : ∀ I2 : mhI, (∀ b y, b ≠ 47 → b ≠ 48 → I2 b y = I0 b y) → Φ (some (.int (if what = 0 then (kpF w h kd tl n r c (2 ^ n)).1 else (kpF w h kd tl n r c (2 ^ n)).2))) S F I2 J P) : ∀ (m s : Nat) (I : mhI) (o14 : Option Value), s + m = 2 ^ n → kpS I0 j n tl I → mhV l K mX7_keeps kc ks Φ 252 [some (.ref 21), some (.int (nI j)), some (.int (nI r)), some (.int (nI c)), o4, o5, o6, some (.int (nI n)), some (.int what), o9, some (.int (nI (60 * js + ii))), some (.int (kpF w h kd tl n r c s).1), some (.int (kpF w h kd tl n r c s).2), some (.int (nI s)), o14] [] S F I J P := by
  have hbd := gBd hm.2.1
  have hj := hm.1
  have h2n : 2 ^ n ≤ 256 := Nat.pow_le_pow_right (by decide) hn
  have ep := pw2 n (List.mem_range.mpr (by omega))
  intro m
  induction m with
  | zero =>
    intro s I o14 hs hf
    obtain rfl : s = 2 ^ n := by omega
    refine mh_iload_13 dX7_keeps_252 (q := 254) rfl ?_
    refine mh_iconst_1 dX7_keeps_254 (q := 255) rfl ?_
    refine mh_iload_7 dX7_keeps_255 (q := 257) rfl ?_
    refine mh_ishl dX7_keeps_257 (q := 258) rfl ?_
    rw [ep]
    refine mh_icmp_ge dX7_keeps_258 (tgt := 357) (q := 261) rfl rfl (fun _ => ?_) (fun hh => absurd (nI_le (Nat.le_refl _) (by omega)) hh)
    refine mh_iconst_0 dX7_keeps_357 (q := 358) rfl ?_
    refine mh_istore_13 dX7_keeps_358 (q := 360) rfl ?_
    exact lp_X7_keepG h7 hm hjs hcl hin hn htl hΦ n 0 I (Nat.zero_add _) hf (fun y hy => hf.2.1 y (fun x hx => hy x (Nat.zero_le _) hx))
  | succ m ih =>
    intro s I o14 hs hf
    have h9 := ih (s + 1)
    have es : (kpF w h kd tl n r c (s + 1)) = if (kpF w h kd tl n r c s).1 < kpT w h (ksF kd tl (nI s) n) r c then (kpT w h (ksF kd tl (nI s) n) r c, nI s) else (kpF w h kd tl n r c s) := rfl
    rw [es] at h9
    refine mh_iload_13 dX7_keeps_252 (q := 254) rfl ?_
    refine mh_iconst_1 dX7_keeps_254 (q := 255) rfl ?_
    refine mh_iload_7 dX7_keeps_255 (q := 257) rfl ?_
    refine mh_ishl dX7_keeps_257 (q := 258) rfl ?_
    rw [ep]
    refine mh_icmp_ge dX7_keeps_258 (tgt := 357) (q := 261) rfl rfl (fun hh => absurd hh (nI_ge (by omega) (by omega))) (fun _ => ?_)
    refine mh_iconst_0 dX7_keeps_261 (q := 262) rfl ?_
    refine mh_istore_14 dX7_keeps_262 (q := 264) rfl ?_
    refine lp_X7_keepE (kd := kd) h7 hm hjs hcl hin hn htl (fun I2 hf2 hp2 => ?_) n 0 I (Nat.zero_add _) hf (fun x hx hxx => by
      rcases hxx with ⟨y, hy, _⟩ | hxx
      · exact absurd hy (Nat.not_lt_zero y)
      · exact (hf.2.1 _ (fun y hy e => hxx y hy (by
          have hbd := gBd hm.2.1
          have t := htl y hy
          have := (nI_eq (by omega) (by omega)).mp e
          omega))).trans (hk x hx))
    have hks : mhKn I2 j w h (ksF kd tl (nI s) n) := fun x hx => hp2 x hx (by
      by_cases z : ∃ y, y < n ∧ tl y = x
      · exact Or.inl z
      · exact Or.inr (fun y hy e => z ⟨y, hy, e⟩))
    refine mh_aload_0 dX7_keeps_312 (q := 313) rfl ?_
    refine mh_iload_1 dX7_keeps_313 (q := 314) rfl ?_
    refine mh_callV1 ca_X7_keeps_314 (shX7_0 h7) (q := 317) rfl (by simp [Value.category]) ⟨Nat.zero_le _, Nat.zero_le _⟩ ?_
    refine sp_X7_shutOf h7 (hf2.hm hm) hks (fun y I3 hy g3 ha => ?_)
    refine mh_bipush (v := (-9)) dX7_keeps_317 (q := 319) rfl (by decide) ?_
    refine mh_icmp_ne dX7_keeps_319 (tgt := 332) (q := 322) rfl rfl (fun c319 => ?_) (fun c319 => ?_)
    · skip
      obtain ⟨T, hT0⟩ : ∃ T : Int32, T = -9 := ⟨_, rfl⟩
      have hT : kpT w h (ksF kd tl (nI s) n) r c = T := by
        rw [hT0]
        refine @if_neg _ (Classical.propDecidable _) (fun z => ?_) _ _ _
        rcases hy with ⟨r2, q1, q2, q3, q4⟩ | q
        · obtain ⟨d, zd⟩ := z r2 q1
          exact q3 d zd
        · exact c319 q.1
      refine mh_bipush (v := (-9)) dX7_keeps_332 (q := 334) rfl (by decide) ?_
      rw [← hT0]
      refine mh_istore_14 dX7_keeps_334 (q := 336) rfl ?_
      refine mh_iload_14 dX7_keeps_336 (q := 338) rfl ?_
      refine mh_iload_11 dX7_keeps_338 (q := 340) rfl ?_
      refine mh_icmp_le dX7_keeps_340 (tgt := 351) (q := 343) rfl rfl (fun c340 => ?_) (fun c340 => ?_)
      · skip
        refine mh_iinc_13 (v := 1) dX7_keeps_351 (q := 354) rfl (by decide) ?_
        refine mh_goto dX7_keeps_354 (tgt := 252) rfl ?_
        rw [nI_1]
        have hlt : ¬ _ := Int32.not_lt.mpr c340
        rw [← hT] at hlt
        rw [if_neg hlt] at h9
        exact h9 I3 _ (by omega) (hf2.f47 g3)
      · skip
        refine mh_iload_14 dX7_keeps_343 (q := 345) rfl ?_
        refine mh_istore_11 dX7_keeps_345 (q := 347) rfl ?_
        refine mh_iload_13 dX7_keeps_347 (q := 349) rfl ?_
        refine mh_istore_12 dX7_keeps_349 (q := 351) rfl ?_
        refine mh_iinc_13 (v := 1) dX7_keeps_351 (q := 354) rfl (by decide) ?_
        refine mh_goto dX7_keeps_354 (tgt := 252) rfl ?_
        rw [nI_1]
        have hlt := Int32.not_le.mp c340
        rw [← hT] at hlt
        rw [if_pos hlt, hT] at h9
        exact h9 I3 _ (by omega) (hf2.f47 g3)
    · skip
      refine mh_aload_0 dX7_keeps_322 (q := 323) rfl ?_
      refine mh_iload_1 dX7_keeps_323 (q := 324) rfl ?_
      refine mh_iload_2 dX7_keeps_324 (q := 325) rfl ?_
      refine mh_iload_3 dX7_keeps_325 (q := 326) rfl ?_
      refine mh_callV3 ca_X7_keeps_326 (shX7_0 h7) (q := 329) rfl (by simp [Value.category]) ⟨Nat.zero_le _, Nat.zero_le _⟩ ?_
      have hfair : fair w h (ksF kd tl (nI s) n) := by
        rcases hy with ⟨r2, q1, q2, q3, q4⟩ | q
        · rw [c319] at q2; exact absurd q2.symm (mh_n9 (by omega))
        · exact q.2
      refine sp_X7_blindTicks h7 ((hf2.hm hm).f47 g3) (hks.f47 g3) hr hc ?_
      obtain ⟨T, hT0⟩ : ∃ T, T = blT w h (ksF kd tl (nI s) n) 200 1 r c := ⟨_, rfl⟩
      have hT : kpT w h (ksF kd tl (nI s) n) r c = T := by rw [hT0]; exact @if_pos _ (Classical.propDecidable _) hfair _ _ _
      rw [← hT0]
      refine mh_goto dX7_keeps_329 (tgt := 334) rfl ?_
      refine mh_istore_14 dX7_keeps_334 (q := 336) rfl ?_
      refine mh_iload_14 dX7_keeps_336 (q := 338) rfl ?_
      refine mh_iload_11 dX7_keeps_338 (q := 340) rfl ?_
      refine mh_icmp_le dX7_keeps_340 (tgt := 351) (q := 343) rfl rfl (fun c340 => ?_) (fun c340 => ?_)
      · skip
        refine mh_iinc_13 (v := 1) dX7_keeps_351 (q := 354) rfl (by decide) ?_
        refine mh_goto dX7_keeps_354 (tgt := 252) rfl ?_
        rw [nI_1]
        have hlt : ¬ _ := Int32.not_lt.mpr c340
        rw [← hT] at hlt
        rw [if_neg hlt] at h9
        exact h9 I3 _ (by omega) (hf2.f47 g3)
      · skip
        refine mh_iload_14 dX7_keeps_343 (q := 345) rfl ?_
        refine mh_istore_11 dX7_keeps_345 (q := 347) rfl ?_
        refine mh_iload_13 dX7_keeps_347 (q := 349) rfl ?_
        refine mh_istore_12 dX7_keeps_349 (q := 351) rfl ?_
        refine mh_iinc_13 (v := 1) dX7_keeps_351 (q := 354) rfl (by decide) ?_
        refine mh_goto dX7_keeps_354 (tgt := 252) rfl ?_
        rw [nI_1]
        have hlt := Int32.not_le.mp c340
        rw [← hT] at hlt
        rw [if_pos hlt, hT] at h9
        exact h9 I3 _ (by omega) (hf2.f47 g3)
set_option maxHeartbeats 4000000 in
set_option maxRecDepth 100000 in
theorem sp_X7_keeps {l : Launch} {K : mhX} {Φ : mhQ} {S : List mhS} {F : mhF} {I : mhI} {J : mhJ} {P : mhP} {nh : Nat} {wd hg : Nat → Nat} (hM : mhHR S F I nh wd hg) {kd : Nat → Nat → Int32} (hK : ∀ j, j < nh → mhKn I j (wd j) (hg j) (kd j)) (hP : mhSm I) {cl : Nat → Nat → Int32} (hcl : ∀ j, j < 4 → ¬ I 22 (nI j) = -9 → ∀ c, c < 60 → I 24 (nI (60 * j + c)) = cl j c) {x y way k so i n what : Int32} (hn : ¬ (mhSc k ∧ vHR nh wd hg x y) → Φ (some (.int (-1))) S (mhUF F 21 0 0) I J P) (hb : (mhSc k ∧ vHR nh wd hg x y) → ¬ (mhSo so ∧ mhSo way ∧ (0 ≤ what ∧ what ≤ 1)) → Φ (some (.int (-2))) S (mhUF F 21 0 0) I J P) (hf : ∀ js, js < 4 → k = nI js → (mhSc k ∧ vHR nh wd hg x y) → (mhSo so ∧ mhSo way ∧ (0 ≤ what ∧ what ≤ 1)) → ¬ (mhAg (I 22 (nI js)) (I 23 (nI js)) so i n) = 0 → Φ (some (.int (-10 - (mhAg (I 22 (nI js)) (I 23 (nI js)) so i n)))) S (mhUF F 21 0 (mhAg (I 22 (nI js)) (I 23 (nI js)) so i n)) I J P) (hz : ∀ js, js < 4 → k = nI js → (mhSc k ∧ vHR nh wd hg x y) → (mhSo so ∧ mhSo way ∧ (0 ≤ what ∧ what ≤ 1)) → (mhAg (I 22 (nI js)) (I 23 (nI js)) so i n) = 0 → ¬ (1 ≤ n ∧ n ≤ 8) → Φ (some (.int (-2))) S (mhUF F 21 0 0) I J P) (hs : ∀ j r js ii nn, j < nh → js < 4 → r < gRooms (wd j) (hg j) → x = nI j → y = nI r → k = nI js → (mhSo so ∧ mhSo way ∧ (0 ≤ what ∧ what ≤ 1)) → (mhAg (I 22 (nI js)) (I 23 (nI js)) so i n) = 0 → i = nI ii → n = nI nn → 1 ≤ nn → nn ≤ 8 → ¬ allS (wd j) (hg j) (cl js) ii nn → Φ (some (.int (-1))) S (mhUF F 21 0 0) I J P) (hl : ∀ j r js ii nn, j < nh → js < 4 → r < gRooms (wd j) (hg j) → x = nI j → y = nI r → k = nI js → (mhSo so ∧ mhSo way ∧ (0 ≤ what ∧ what ≤ 1)) → (mhAg (I 22 (nI js)) (I 23 (nI js)) so i n) = 0 → i = nI ii → n = nI nn → 1 ≤ nn → nn ≤ 8 → allS (wd j) (hg j) (cl js) ii nn → likS (cl js) ii nn → Φ (some (.int (-2))) S (mhUF F 21 0 0) I J P) (ht : ∀ j r js ii nn c, j < nh → js < 4 → r < gRooms (wd j) (hg j) → x = nI j → y = nI r → k = nI js → (mhSo so ∧ mhSo way ∧ (0 ≤ what ∧ what ≤ 1)) → (mhAg (I 22 (nI js)) (I 23 (nI js)) so i n) = 0 → i = nI ii → n = nI nn → 1 ≤ nn → nn ≤ 8 → allS (wd j) (hg j) (cl js) ii nn → ¬ likS (cl js) ii nn → way = nI c → c < 3 → ∀ (F2 : mhF) (I2 : mhI), (∀ b k, F2 b k = mhUF F 21 0 0 b k) → (∀ b y, b ≠ 47 → b ≠ 48 → I2 b y = I b y) → Φ (some (.int (if what = 0 then (kpF (wd j) (hg j) (kd j) (fun x => (cl js (ii + x)).toNatClampNeg) nn r c (2 ^ nn)).1 else (kpF (wd j) (hg j) (kd j) (fun x => (cl js (ii + x)).toNatClampNeg) nn r c (2 ^ nn)).2))) S F2 I2 J P) : mhOk l K mX7_keeps [.ref 21, .int x, .int y, .int way, .int k, .int so, .int i, .int n, .int what] S F I J P Φ := by
  refine mhOk.of (by decide) (by decide) rfl (Nat.le_of_ble_eq_true rfl) ?_
  refine mh_aload_0 dX7_keeps_0 (q := 1) rfl ?_
  refine mh_iconst_0 dX7_keeps_1 (q := 2) rfl ?_
  refine mh_putI (Or.inl fw_X7_102) rfl rfl dX7_keeps_2 (q := 5) rfl (shX7_0 hM.1) rfl ?_
  replace hM := hM.f0 (v := 0)
  refine mh_iload_4 dX7_keeps_5 (q := 7) rfl ?_
  refine mh_callS1 ca_X7_keeps_7 (q := 10) rfl (by simp [Value.category]) ⟨Nat.zero_le _, Nat.zero_le _⟩ ?_
  refine sp_X7_isSheet (fun hks => ?_) (fun hks => ?_)
  · skip
    refine mh_if_eq dX7_keeps_10 (tgt := 22) (q := 13) rfl rfl (fun hh => False.elim (by revert hh; decide)) (fun _ => ?_)
    refine mh_aload_0 dX7_keeps_13 (q := 14) rfl ?_
    refine mh_iload_1 dX7_keeps_14 (q := 15) rfl ?_
    refine mh_iload_2 dX7_keeps_15 (q := 16) rfl ?_
    refine mh_callV2 ca_X7_keeps_16 (shX7_0 hM.1) (q := 19) rfl (by simp [Value.category]) ⟨Nat.zero_le _, Nat.zero_le _⟩ ?_
    refine sp_X7_isRoom hM (fun j r hj hr ej er => ?_) (fun hk => ?_)
    · skip
      subst ej; subst er
      refine mh_if_ne dX7_keeps_19 (tgt := 24) (q := 22) rfl rfl (fun _ => ?_) (fun hh => False.elim (by revert hh; decide))
      refine mh_iload_5 dX7_keeps_24 (q := 26) rfl ?_
      refine mh_callS1 ca_X7_keeps_26 (q := 29) rfl (by simp [Value.category]) ⟨Nat.zero_le _, Nat.zero_le _⟩ ?_
      refine sp_X7_isSort (fun cs => ?_) (fun cs => ?_)
      · skip
        refine mh_if_eq dX7_keeps_29 (tgt := 51) (q := 32) rfl rfl (fun hh => False.elim (by revert hh; decide)) (fun _ => ?_)
        refine mh_iload_3 dX7_keeps_32 (q := 33) rfl ?_
        refine mh_iconst_0 dX7_keeps_33 (q := 34) rfl ?_
        refine mh_iconst_2 dX7_keeps_34 (q := 35) rfl ?_
        refine mh_callS3 ca_X7_keeps_35 (q := 38) rfl (by simp [Value.category]) ⟨Nat.zero_le _, Nat.zero_le _⟩ ?_
        refine sp_X7_within (fun cw => ?_) (fun cw => ?_)
        · skip
          refine mh_if_eq dX7_keeps_38 (tgt := 51) (q := 41) rfl rfl (fun hh => False.elim (by revert hh; decide)) (fun _ => ?_)
          refine mh_iload_8 dX7_keeps_41 (q := 43) rfl ?_
          refine mh_iconst_0 dX7_keeps_43 (q := 44) rfl ?_
          refine mh_iconst_1 dX7_keeps_44 (q := 45) rfl ?_
          refine mh_callS3 ca_X7_keeps_45 (q := 48) rfl (by simp [Value.category]) ⟨Nat.zero_le _, Nat.zero_le _⟩ ?_
          refine sp_X7_within (fun ca => ?_) (fun ca => ?_)
          · skip
            refine mh_if_ne dX7_keeps_48 (tgt := 54) (q := 51) rfl rfl (fun _ => ?_) (fun hh => False.elim (by revert hh; decide))
            obtain ⟨js, hjs, rfl⟩ := mh_scj hks
            refine mh_aload_0 dX7_keeps_54 (q := 55) rfl ?_
            refine mh_iload_4 dX7_keeps_55 (q := 57) rfl ?_
            refine mh_iload_5 dX7_keeps_57 (q := 59) rfl ?_
            refine mh_iload_6 dX7_keeps_59 (q := 61) rfl ?_
            refine mh_iload_7 dX7_keeps_61 (q := 63) rfl ?_
            refine mh_callV4 ca_X7_keeps_63 (shX7_0 hM.1) (q := 66) rfl (by simp [Value.category]) ⟨Nat.zero_le _, Nat.zero_le _⟩ ?_
            refine sp_X7_against hM.1 (mh_sc4 hks) ?_
            refine mh_istore_9 dX7_keeps_66 (q := 68) rfl ?_
            refine mh_iload_9 dX7_keeps_68 (q := 70) rfl ?_
            refine mh_if_eq dX7_keeps_70 (tgt := 80) (q := 73) rfl rfl (fun c70 => ?_) (fun c70 => ?_)
            · skip
              refine mh_iload_7 dX7_keeps_80 (q := 82) rfl ?_
              refine mh_iconst_1 dX7_keeps_82 (q := 83) rfl ?_
              refine mh_bipush (v := 8) dX7_keeps_83 (q := 85) rfl (by decide) ?_
              refine mh_callS3 ca_X7_keeps_85 (q := 88) rfl (by simp [Value.category]) ⟨Nat.zero_le _, Nat.zero_le _⟩ ?_
              refine sp_X7_within (fun cn => ?_) (fun cn => ?_)
              · skip
                refine mh_if_ne dX7_keeps_88 (tgt := 94) (q := 91) rfl rfl (fun _ => ?_) (fun hh => False.elim (by revert hh; decide))
                obtain ⟨hs9, ii, nn0, hin, rfl, rfl⟩ := mhAg_0 c70 (hP js hjs).1 (hP js hjs).2
                obtain ⟨nn, hn1, hn8, en⟩ := mh_n8 cn
                have enn : nn0 = nn := (nI_eq (by omega) (by omega)).mp en
                subst enn
                obtain ⟨c, hc, rfl⟩ := mh_way cw
                refine mh_bipush (v := 60) dX7_keeps_94 (q := 96) rfl (by decide) ?_
                refine mh_iload_4 dX7_keeps_96 (q := 98) rfl ?_
                refine mh_imul dX7_keeps_98 (q := 99) rfl ?_
                refine mh_iload_6 dX7_keeps_99 (q := 101) rfl ?_
                refine mh_iadd dX7_keeps_101 (q := 102) rfl ?_
                rw [mh_e60]
                refine mh_istore_10 dX7_keeps_102 (q := 104) rfl ?_
                refine mh_iconst_0 dX7_keeps_104 (q := 105) rfl ?_
                refine mh_istore_11 dX7_keeps_105 (q := 107) rfl ?_
                refine lp_X7_keepA (kc := mX7_keeps.2.2.2.2.cells) (ks := mX7_keeps.2.2.2.2.slots) hM hj hjs (hcl js hjs hs9) hin (fun cS => hs j r js ii nn0 hj hjs hr rfl rfl rfl ⟨cs, cw, ca⟩ c70 rfl rfl hn1 hn8 cS) (fun cS => ?_) nn0 0 (Nat.zero_add _) (fun x hx => absurd hx (Nat.not_lt_zero x))
                have htl : ∀ x, x < nn0 → (cl js (ii + x)).toNatClampNeg < gSides (wd j) (hg j) ∧ cl js (ii + x) = nI (cl js (ii + x)).toNatClampNeg := fun x hx => by
                  obtain ⟨t, t1, t2⟩ := cS x hx
                  have hbd := gBd (hM.2.2.2 j hj).2.1
                  rw [t2, nI_clamp (by omega)]
                  exact ⟨t1, rfl⟩
                refine mh_iconst_0 dX7_keeps_140 (q := 141) rfl ?_
                refine mh_istore_11 dX7_keeps_141 (q := 143) rfl ?_
                refine lp_X7_keepB (kc := mX7_keeps.2.2.2.2.cells) (ks := mX7_keeps.2.2.2.2.slots) hM.1 hjs (hcl js hjs hs9) hin (fun cL => hl j r js ii nn0 hj hjs hr rfl rfl rfl ⟨cs, cw, ca⟩ c70 rfl rfl hn1 hn8 cS cL) (fun cL o12 => ?_) nn0 0 _ (Nat.zero_add _) (fun x y _ z => absurd z (Nat.not_lt_zero y))
                refine mh_iconst_0 dX7_keeps_198 (q := 199) rfl ?_
                refine mh_istore_11 dX7_keeps_199 (q := 201) rfl ?_
                refine lp_X7_keepC (kc := mX7_keeps.2.2.2.2.cells) (ks := mX7_keeps.2.2.2.2.slots) hM.1 (hM.2.2.2 j hj) hjs (hcl js hjs hs9) hin hn8 htl (fun I1 hf1 _ => ?_) nn0 0 I (Nat.zero_add _) (fun _ _ _ => rfl) (fun x hx => absurd hx (Nat.not_lt_zero x))
                refine mh_bipush (v := (-9)) dX7_keeps_241 (q := 243) rfl (by decide) ?_
                refine mh_istore_11 dX7_keeps_243 (q := 245) rfl ?_
                refine mh_bipush (v := (-9)) dX7_keeps_245 (q := 247) rfl (by decide) ?_
                refine mh_istore_12 dX7_keeps_247 (q := 249) rfl ?_
                refine mh_iconst_0 dX7_keeps_249 (q := 250) rfl ?_
                refine mh_istore_13 dX7_keeps_250 (q := 252) rfl ?_
                exact lp_X7_keepD (kc := mX7_keeps.2.2.2.2.cells) (ks := mX7_keeps.2.2.2.2.slots) hM.1 (hM.2.2.2 j hj) hjs (hcl js hjs hs9) hin hn8 htl (hK j hj) hr hc (fun I2 g2 => ht j r js ii nn0 c hj hjs hr rfl rfl rfl ⟨cs, cw, ca⟩ c70 rfl rfl hn1 hn8 cS cL rfl hc _ I2 (fun _ _ => rfl) g2) (2 ^ nn0) 0 I1 _ (Nat.zero_add _) hf1
              · skip
                refine mh_if_ne dX7_keeps_88 (tgt := 94) (q := 91) rfl rfl (fun hh => False.elim (by revert hh; decide)) (fun _ => ?_)
                refine mh_bipush (v := (-2)) dX7_keeps_91 (q := 93) rfl (by decide) ?_
                refine mh_ireturn dX7_keeps_93 rfl rfl ?_
                exact hz js hjs rfl ⟨hks, j, hj, rfl, r, hr, rfl⟩ ⟨cs, cw, ca⟩ c70 cn
            · skip
              refine mh_aload_0 dX7_keeps_73 (q := 74) rfl ?_
              refine mh_iload_9 dX7_keeps_74 (q := 76) rfl ?_
              refine mh_callV1 ca_X7_keeps_76 (shX7_0 hM.1) (q := 79) rfl (by simp [Value.category]) ⟨Nat.zero_le _, Nat.zero_le _⟩ ?_
              refine sp_X7_fails hM.1 ?_
              rw [mhUF_uu]
              refine mh_ireturn dX7_keeps_79 rfl rfl ?_
              exact hf js hjs rfl ⟨hks, j, hj, rfl, r, hr, rfl⟩ ⟨cs, cw, ca⟩ c70
          · skip
            refine mh_if_ne dX7_keeps_48 (tgt := 54) (q := 51) rfl rfl (fun hh => False.elim (by revert hh; decide)) (fun _ => ?_)
            refine mh_bipush (v := (-2)) dX7_keeps_51 (q := 53) rfl (by decide) ?_
            refine mh_ireturn dX7_keeps_53 rfl rfl ?_
            exact hb ⟨hks, j, hj, rfl, r, hr, rfl⟩ (fun e => by first | exact cs e.1 | exact cw e.2.1 | exact ca e.2.2)
        · skip
          refine mh_if_eq dX7_keeps_38 (tgt := 51) (q := 41) rfl rfl (fun _ => ?_) (fun hh => False.elim (by revert hh; decide))
          refine mh_bipush (v := (-2)) dX7_keeps_51 (q := 53) rfl (by decide) ?_
          refine mh_ireturn dX7_keeps_53 rfl rfl ?_
          exact hb ⟨hks, j, hj, rfl, r, hr, rfl⟩ (fun e => by first | exact cs e.1 | exact cw e.2.1 | exact ca e.2.2)
      · skip
        refine mh_if_eq dX7_keeps_29 (tgt := 51) (q := 32) rfl rfl (fun _ => ?_) (fun hh => False.elim (by revert hh; decide))
        refine mh_bipush (v := (-2)) dX7_keeps_51 (q := 53) rfl (by decide) ?_
        refine mh_ireturn dX7_keeps_53 rfl rfl ?_
        exact hb ⟨hks, j, hj, rfl, r, hr, rfl⟩ (fun e => by first | exact cs e.1 | exact cw e.2.1 | exact ca e.2.2)
    · skip
      refine mh_if_ne dX7_keeps_19 (tgt := 24) (q := 22) rfl rfl (fun hh => False.elim (by revert hh; decide)) (fun _ => ?_)
      refine mh_iconst_m1 dX7_keeps_22 (q := 23) rfl ?_
      refine mh_ireturn dX7_keeps_23 rfl rfl ?_
      refine hn (fun z => ?_)
      first
      | exact hks z.1
      | exact hk z.2
  · skip
    refine mh_if_eq dX7_keeps_10 (tgt := 22) (q := 13) rfl rfl (fun _ => ?_) (fun hh => False.elim (by revert hh; decide))
    refine mh_iconst_m1 dX7_keeps_22 (q := 23) rfl ?_
    refine mh_ireturn dX7_keeps_23 rfl rfl ?_
    refine hn (fun z => ?_)
    first
    | exact hks z.1
    | exact hk z.2
