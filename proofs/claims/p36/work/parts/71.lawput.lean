/-! the law: a house put into a sheet -/
theorem mhV_gFI {l : Launch} {K : mhX} {M : mhM} {kc ks : Nat} {Φ : mhQ} {pc : Nat} {lo : List (Option Value)} {st : List Value} {S : List mhS} {F : mhF} {I : mhI} {J : mhJ} {P : mhP} (Pr : mhF → mhI → Prop) (h : Pr F I) (k : ∀ F2 I2, Pr F2 I2 → mhV l K M kc ks Φ pc lo st S F2 I2 J P) : mhV l K M kc ks Φ pc lo st S F I J P := k F I h
theorem nI0_j {j : Nat} (hj : j < 4) (e : (0 : Int32) = nI j) : j = 0 := ((nI_eq (a := 0) (b := j) (by decide) (by omega)).mp e).symm
/-- the sheet 0: sixty shorts -/
def lwSt (S : List mhS) (F : mhF) (P : mhP) : Prop := mhSh S F P ∧ F 13 1 = 1 ∧ F 13 2 = 60
theorem lw_sheet {l : Launch} {K : mhX} {Φ : mhQ} {S : List mhS} {F : mhF} {I : mhI} {J : mhJ} {P : mhP} (h6 : mhKX6 S) (hP : mhSh S F P) (hΦ : ∀ F2 I2, (∀ k, ¬ k = 12 → F2 0 k = F 0 k) → (∀ c y, c ≠ 14 → I2 c y = I c y) → lwSt S F2 P → Φ (some (.int 1)) S F2 I2 J P) : mhOk l K mX6_sheet [.ref 0, .int 0, .int 1, .int 60] S F I J P Φ := by
  refine sp_X6_sheet h6 hP (fun hh => absurd (by unfold mhShOk mhSc mhSo; decide) hh) (fun j hj e hk => ?_)
  obtain rfl := nI0_j hj e
  refine hΦ _ _ (fun k hk => ?_) (fun c y hc => ?_) ⟨fun j hj => ?_, ?_, ?_⟩
  · simp (decide := true) [mhUF, hk]
  · unfold mhFill
    rw [if_neg (fun q => hc q.1)]
  · obtain ⟨q1, q2, q3, q4⟩ := hP j hj
    refine ⟨q1, q2, ?_⟩
    by_cases e : j = 0
    · subst e
      simp (decide := true) [mhUF]
    · have n1 : ¬ (13 + 2 * j = 13) := by omega
      have n2 : ¬ (13 + 2 * j = 0) := by omega
      have n3 : ¬ (2 * j = 0) := by omega
      simp [mhUF, n1, n2, n3, e, q3, q4]
  · simp (decide := true) [mhUF]
  · simp (decide := true) [mhUF]
theorem lw_put {l : Launch} {K : mhX} {Φ : mhQ} {S : List mhS} {F : mhF} {I : mhI} {J : mhJ} {P : mhP} (h6 : mhKX6 S) (hs : lwSt S F P) {n : Nat} {v : Int32} (hn : n < 60) (hv : v.toInt16.toInt32 = v) (hΦ : ∀ F2 I2, (∀ k, ¬ k = 12 → F2 0 k = F 0 k) → (∀ c y, c ≠ 14 → I2 c y = I c y) → lwSt S F2 P → I2 14 (nI n) = v → (∀ c, c < 60 → c ≠ n → I2 14 (nI c) = I 14 (nI c)) → Φ (some (.int 1)) S F2 I2 J P) : mhOk l K mX6_put [.ref 0, .int 0, .int (nI n), .int v] S F I J P Φ := by
  have hok : mhPuOk (F 13 1) (F 13 2) (nI n) := by
    rw [hs.2.1, hs.2.2]
    refine ⟨by decide, nI_pos' (by omega), ?_⟩
    rw [show (60 : Int32) - 1 = nI 59 from by decide, nI_leI (by omega) (by decide)]
    omega
  refine sp_X6_put h6 hs.1 (fun hh => absurd (by unfold mhSc; decide) hh) (fun j hj e _ hb => ?_) (fun j hj e _ _ => ?_)
  · obtain rfl := nI0_j hj e
    exact absurd hok hb
  · obtain rfl := nI0_j hj e
    refine hΦ _ _ (fun k hk => ?_) (fun c y hc => mhUI_ne hc) ⟨fun j hj => ?_, ?_, ?_⟩ ?_ (fun c hc hne => ?_)
    · simp [mhUF, hk]
    · obtain ⟨q1, q2, q3, q4⟩ := hs.1 j hj
      have n2 : ¬ (13 + 2 * j = 0) := by omega
      exact ⟨q1, q2, by simp [mhUF, n2, q3], by simp [mhUF, n2, q4]⟩
    · simp (decide := true) [mhUF, hs.2.1]
    · simp (decide := true) [mhUF, hs.2.2]
    · show mhUI I 14 (nI n) (mhCut (F 13 1) v) 14 (nI n) = v
      rw [hs.2.1]
      simp (decide := true) [mhUI, mhCut, hv]
    · show mhUI I 14 (nI n) (mhCut (F 13 1) v) 14 (nI c) = I 14 (nI c)
      unfold mhUI
      rw [if_neg (fun q => hne ((nI_eq (by omega) (by omega)).mp q.2))]
theorem cd_s (w : Nat) (hw : w < 5) : (nI (48 + w)).toInt16.toInt32 = nI (48 + w) := by
  rcases (show w = 0 ∨ w = 1 ∨ w = 2 ∨ w = 3 ∨ w = 4 by omega) with rfl | rfl | rfl | rfl | rfl <;> decide
/-- a kind, its letter -/
def kdA (v : Int32) : Prop := v = 0 ∨ v = 1 ∨ v = 2
def kdC (v : Int32) : Int32 := if v = 0 then 109 else if v = 1 then 103 else 111
/-- the text as far as k letters -/
def lwTx (I : mhI) (b w h n : Nat) : Prop := I 14 (nI 0) = 119 ∧ I 14 (nI 1) = nI (48 + w) ∧ I 14 (nI 2) = 104 ∧ I 14 (nI 3) = nI (48 + h) ∧ I 14 (nI 4) = 59 ∧ ∀ k, k < n → kdA (I b (nI (3 + k))) ∧ I 14 (nI (5 + k)) = kdC (I b (nI (3 + k)))
def lwHd (I : mhI) (b w h : Nat) : Prop := I b 0 = nI w ∧ I b 1 = nI h ∧ I b 2 = nI (gSides w h)
set_option maxHeartbeats 4000000 in
set_option maxRecDepth 100000 in
theorem lp_L_put {l : Launch} {K : mhX} {kc ks : Nat} {Φ : mhQ} {S : List mhS} {J : mhJ} {P : mhP} {b w h how : Nat} {x6 : Int32} (h6 : mhKX6 S) (hL : K.2.2.2.2.1 ≤ 260) (hb : S[b]? = some (.inl (0, 50))) (hb2 : 21 ≤ b) (g : gOk w h) (hhow : how < 4) {F0 : mhF} (hΦ : ∀ F2 I2, (∀ k, ¬ k = 12 → F2 0 k = F0 0 k) → lwSt S F2 P → lwHd I2 b w h → lwTx I2 b w h (gSides w h) → Φ (some (.int (nI (5 + gSides w h)))) S F2 I2 J P) : ∀ (m k : Nat) (F : mhF) (I : mhI) (o9 : Option Value), k + m = gSides w h → (∀ k, ¬ k = 12 → F 0 k = F0 0 k) → lwSt S F P → lwHd I b w h → lwTx I b w h k →  mhV l K mL_put kc ks Φ 158 [some (.ref 0), some (.retAddr 0), some (.int 0), some (.int 4), some (.int 3), some (.ref b), some (.int x6), some (.int (nI how)), some (.int (nI k)), o9] [] S F I J P := by
  have hbd := gBd g
  intro m
  induction m with
  | zero =>
    intro k F I o9 hk hf hs hh ht
    obtain ⟨hh0, hh1, hh2⟩ := hh
    obtain rfl : k = gSides w h := by omega
    refine mh_iload_8 dL_put_158 (q := 160) rfl ?_
    refine mh_aload_5 dL_put_160 (q := 162) rfl ?_
    refine mh_iconst_2 dL_put_162 (q := 163) rfl ?_
    refine mh_iald dL_put_163 (q := 164) rfl hb (vp_in_nI (n := 2) (by decide) (by decide)) ?_
    rw [hh2]
    refine mh_icmp_ge dL_put_164 (tgt := 295) (q := 167) rfl rfl (fun _ => ?_) (fun hh => absurd (Int32.le_refl _) hh)
    refine mh_iconst_5 dL_put_295 (q := 296) rfl ?_
    refine mh_aload_5 dL_put_296 (q := 298) rfl ?_
    refine mh_iconst_2 dL_put_298 (q := 299) rfl ?_
    refine mh_iald dL_put_299 (q := 300) rfl hb (vp_in_nI (n := 2) (by decide) (by decide)) ?_
    rw [hh2]
    refine mh_iadd dL_put_300 (q := 301) rfl ?_
    rw [show (5 : Int32) + nI (gSides w h) = nI (5 + gSides w h) from nI_add 5 _]
    refine mh_ireturn dL_put_301 rfl rfl ?_
    exact hΦ F I hf hs ⟨hh0, hh1, hh2⟩ ht
  | succ m ih =>
    intro k F I o9 hk hf hs hh ht
    obtain ⟨hh0, hh1, hh2⟩ := hh
    have kk : ∀ (z : Int32) (o9 : Option Value), kdA z → mhV l K mL_put kc ks Φ 239 [some (.ref 0), some (.retAddr 0), some (.int 0), some (.int 4), some (.int 3), some (.ref b), some (.int x6), some (.int (nI how)), some (.int (nI k)), o9] [.int z] S F I J P := by
      intro z o9 hz
      refine mh_istore_9 dL_put_239 (q := 241) rfl ?_
      rcases hz with rfl | rfl | rfl
      · skip
        refine mh_aload_5 dL_put_241 (q := 243) rfl ?_
        refine mh_iconst_3 dL_put_243 (q := 244) rfl ?_
        refine mh_iload_8 dL_put_244 (q := 246) rfl ?_
        refine mh_iadd dL_put_246 (q := 247) rfl ?_
        rw [show (3 : Int32) + nI k = nI (3 + k) from nI_add 3 k]
        refine mh_iload_9 dL_put_247 (q := 249) rfl ?_
        refine mh_iast dL_put_249 (q := 250) rfl hb (by decide) (vp_in_nI (by omega) (by omega)) ?_
        refine mh_aload_0 dL_put_250 (q := 251) rfl ?_
        refine mh_iconst_0 dL_put_251 (q := 252) rfl ?_
        refine mh_iconst_5 dL_put_252 (q := 253) rfl ?_
        refine mh_iload_8 dL_put_253 (q := 255) rfl ?_
        refine mh_iadd dL_put_255 (q := 256) rfl ?_
        rw [show (5 : Int32) + nI k = nI (5 + k) from nI_add 5 k]
        refine mh_iload_9 dL_put_256 (q := 258) rfl ?_
        refine mh_if_ne dL_put_258 (tgt := 266) (q := 261) rfl rfl (fun hh => False.elim (by revert hh; decide)) (fun _ => ?_)
        refine mh_bipush (v := 109) dL_put_261 (q := 263) rfl (by decide) ?_
        refine mh_goto dL_put_263 (tgt := 279) rfl ?_
        refine mh_callV3 ca_L_put_279 (shX6_0 h6) (q := 282) rfl (by simp [Value.category]) ⟨Nat.zero_le _, Nat.zero_le _⟩ ?_
        refine lw_put h6 hs (n := 5 + k) (by omega) (by decide) (fun F2 I2 hf2 hi2 hs2 a1 a2 => ?_)
        refine mh_iconst_1 dL_put_282 (q := 283) rfl ?_
        refine mh_icmp_eq dL_put_283 (tgt := 289) (q := 286) rfl rfl (fun _ => ?_) (fun hh => False.elim (by revert hh; decide))
        refine mh_iinc_8 (v := 1) dL_put_289 (q := 292) rfl (by decide) ?_
        refine mh_goto dL_put_292 (tgt := 158) rfl ?_
        rw [show nI k + 1 = nI (k + 1) from nI_add k 1]
        have hbk : ∀ c, c < 50 → c ≠ 3 + k → I2 b (nI c) = I b (nI c) := fun c hc hn => by
          rw [hi2 _ _ (by omega)]
          unfold mhUI
          rw [if_neg (fun q => hn ((nI_eq (by omega) (by omega)).mp q.2))]
        have hbv : I2 b (nI (3 + k)) = 0 := by
          rw [hi2 _ _ (by omega)]
          unfold mhUI
          rw [if_pos ⟨rfl, rfl⟩]
        have hI14 : ∀ c y, c = 14 → mhUI I b (nI (3 + k)) 0 c y = I c y := fun c y hc => mhUI_ne (by omega)
        refine ih (k + 1) F2 I2 _ (by omega) (fun z hz => (hf2 z hz).trans (hf z hz)) hs2 ⟨(hbk 0 (by omega) (by omega)).trans hh0, (hbk 1 (by omega) (by omega)).trans hh1, (hbk 2 (by omega) (by omega)).trans hh2⟩ ⟨?_, ?_, ?_, ?_, ?_, fun z hz => ?_⟩
        · rw [a2 0 (by omega) (by omega), hI14 _ _ rfl]; exact ht.1
        · rw [a2 1 (by omega) (by omega), hI14 _ _ rfl]; exact ht.2.1
        · rw [a2 2 (by omega) (by omega), hI14 _ _ rfl]; exact ht.2.2.1
        · rw [a2 3 (by omega) (by omega), hI14 _ _ rfl]; exact ht.2.2.2.1
        · rw [a2 4 (by omega) (by omega), hI14 _ _ rfl]; exact ht.2.2.2.2.1
        · rcases Nat.lt_or_ge z k with q | q
          · rw [hbk (3 + z) (by omega) (by omega), a2 (5 + z) (by omega) (by omega), hI14 _ _ rfl]
            exact ht.2.2.2.2.2 z q
          · obtain rfl : z = k := by omega
            rw [hbv, a1]
            exact ⟨by unfold kdA; decide, by unfold kdC; decide⟩
      · skip
        refine mh_aload_5 dL_put_241 (q := 243) rfl ?_
        refine mh_iconst_3 dL_put_243 (q := 244) rfl ?_
        refine mh_iload_8 dL_put_244 (q := 246) rfl ?_
        refine mh_iadd dL_put_246 (q := 247) rfl ?_
        rw [show (3 : Int32) + nI k = nI (3 + k) from nI_add 3 k]
        refine mh_iload_9 dL_put_247 (q := 249) rfl ?_
        refine mh_iast dL_put_249 (q := 250) rfl hb (by decide) (vp_in_nI (by omega) (by omega)) ?_
        refine mh_aload_0 dL_put_250 (q := 251) rfl ?_
        refine mh_iconst_0 dL_put_251 (q := 252) rfl ?_
        refine mh_iconst_5 dL_put_252 (q := 253) rfl ?_
        refine mh_iload_8 dL_put_253 (q := 255) rfl ?_
        refine mh_iadd dL_put_255 (q := 256) rfl ?_
        rw [show (5 : Int32) + nI k = nI (5 + k) from nI_add 5 k]
        refine mh_iload_9 dL_put_256 (q := 258) rfl ?_
        refine mh_if_ne dL_put_258 (tgt := 266) (q := 261) rfl rfl (fun _ => ?_) (fun hh => False.elim (by revert hh; decide))
        refine mh_iload_9 dL_put_266 (q := 268) rfl ?_
        refine mh_iconst_1 dL_put_268 (q := 269) rfl ?_
        refine mh_icmp_ne dL_put_269 (tgt := 277) (q := 272) rfl rfl (fun hh => False.elim (by revert hh; decide)) (fun _ => ?_)
        refine mh_bipush (v := 103) dL_put_272 (q := 274) rfl (by decide) ?_
        refine mh_goto dL_put_274 (tgt := 279) rfl ?_
        refine mh_callV3 ca_L_put_279 (shX6_0 h6) (q := 282) rfl (by simp [Value.category]) ⟨Nat.zero_le _, Nat.zero_le _⟩ ?_
        refine lw_put h6 hs (n := 5 + k) (by omega) (by decide) (fun F2 I2 hf2 hi2 hs2 a1 a2 => ?_)
        refine mh_iconst_1 dL_put_282 (q := 283) rfl ?_
        refine mh_icmp_eq dL_put_283 (tgt := 289) (q := 286) rfl rfl (fun _ => ?_) (fun hh => False.elim (by revert hh; decide))
        refine mh_iinc_8 (v := 1) dL_put_289 (q := 292) rfl (by decide) ?_
        refine mh_goto dL_put_292 (tgt := 158) rfl ?_
        rw [show nI k + 1 = nI (k + 1) from nI_add k 1]
        have hbk : ∀ c, c < 50 → c ≠ 3 + k → I2 b (nI c) = I b (nI c) := fun c hc hn => by
          rw [hi2 _ _ (by omega)]
          unfold mhUI
          rw [if_neg (fun q => hn ((nI_eq (by omega) (by omega)).mp q.2))]
        have hbv : I2 b (nI (3 + k)) = 1 := by
          rw [hi2 _ _ (by omega)]
          unfold mhUI
          rw [if_pos ⟨rfl, rfl⟩]
        have hI14 : ∀ c y, c = 14 → mhUI I b (nI (3 + k)) 1 c y = I c y := fun c y hc => mhUI_ne (by omega)
        refine ih (k + 1) F2 I2 _ (by omega) (fun z hz => (hf2 z hz).trans (hf z hz)) hs2 ⟨(hbk 0 (by omega) (by omega)).trans hh0, (hbk 1 (by omega) (by omega)).trans hh1, (hbk 2 (by omega) (by omega)).trans hh2⟩ ⟨?_, ?_, ?_, ?_, ?_, fun z hz => ?_⟩
        · rw [a2 0 (by omega) (by omega), hI14 _ _ rfl]; exact ht.1
        · rw [a2 1 (by omega) (by omega), hI14 _ _ rfl]; exact ht.2.1
        · rw [a2 2 (by omega) (by omega), hI14 _ _ rfl]; exact ht.2.2.1
        · rw [a2 3 (by omega) (by omega), hI14 _ _ rfl]; exact ht.2.2.2.1
        · rw [a2 4 (by omega) (by omega), hI14 _ _ rfl]; exact ht.2.2.2.2.1
        · rcases Nat.lt_or_ge z k with q | q
          · rw [hbk (3 + z) (by omega) (by omega), a2 (5 + z) (by omega) (by omega), hI14 _ _ rfl]
            exact ht.2.2.2.2.2 z q
          · obtain rfl : z = k := by omega
            rw [hbv, a1]
            exact ⟨by unfold kdA; decide, by unfold kdC; decide⟩
      · skip
        refine mh_aload_5 dL_put_241 (q := 243) rfl ?_
        refine mh_iconst_3 dL_put_243 (q := 244) rfl ?_
        refine mh_iload_8 dL_put_244 (q := 246) rfl ?_
        refine mh_iadd dL_put_246 (q := 247) rfl ?_
        rw [show (3 : Int32) + nI k = nI (3 + k) from nI_add 3 k]
        refine mh_iload_9 dL_put_247 (q := 249) rfl ?_
        refine mh_iast dL_put_249 (q := 250) rfl hb (by decide) (vp_in_nI (by omega) (by omega)) ?_
        refine mh_aload_0 dL_put_250 (q := 251) rfl ?_
        refine mh_iconst_0 dL_put_251 (q := 252) rfl ?_
        refine mh_iconst_5 dL_put_252 (q := 253) rfl ?_
        refine mh_iload_8 dL_put_253 (q := 255) rfl ?_
        refine mh_iadd dL_put_255 (q := 256) rfl ?_
        rw [show (5 : Int32) + nI k = nI (5 + k) from nI_add 5 k]
        refine mh_iload_9 dL_put_256 (q := 258) rfl ?_
        refine mh_if_ne dL_put_258 (tgt := 266) (q := 261) rfl rfl (fun _ => ?_) (fun hh => False.elim (by revert hh; decide))
        refine mh_iload_9 dL_put_266 (q := 268) rfl ?_
        refine mh_iconst_1 dL_put_268 (q := 269) rfl ?_
        refine mh_icmp_ne dL_put_269 (tgt := 277) (q := 272) rfl rfl (fun _ => ?_) (fun hh => False.elim (by revert hh; decide))
        refine mh_bipush (v := 111) dL_put_277 (q := 279) rfl (by decide) ?_
        refine mh_callV3 ca_L_put_279 (shX6_0 h6) (q := 282) rfl (by simp [Value.category]) ⟨Nat.zero_le _, Nat.zero_le _⟩ ?_
        refine lw_put h6 hs (n := 5 + k) (by omega) (by decide) (fun F2 I2 hf2 hi2 hs2 a1 a2 => ?_)
        refine mh_iconst_1 dL_put_282 (q := 283) rfl ?_
        refine mh_icmp_eq dL_put_283 (tgt := 289) (q := 286) rfl rfl (fun _ => ?_) (fun hh => False.elim (by revert hh; decide))
        refine mh_iinc_8 (v := 1) dL_put_289 (q := 292) rfl (by decide) ?_
        refine mh_goto dL_put_292 (tgt := 158) rfl ?_
        rw [show nI k + 1 = nI (k + 1) from nI_add k 1]
        have hbk : ∀ c, c < 50 → c ≠ 3 + k → I2 b (nI c) = I b (nI c) := fun c hc hn => by
          rw [hi2 _ _ (by omega)]
          unfold mhUI
          rw [if_neg (fun q => hn ((nI_eq (by omega) (by omega)).mp q.2))]
        have hbv : I2 b (nI (3 + k)) = 2 := by
          rw [hi2 _ _ (by omega)]
          unfold mhUI
          rw [if_pos ⟨rfl, rfl⟩]
        have hI14 : ∀ c y, c = 14 → mhUI I b (nI (3 + k)) 2 c y = I c y := fun c y hc => mhUI_ne (by omega)
        refine ih (k + 1) F2 I2 _ (by omega) (fun z hz => (hf2 z hz).trans (hf z hz)) hs2 ⟨(hbk 0 (by omega) (by omega)).trans hh0, (hbk 1 (by omega) (by omega)).trans hh1, (hbk 2 (by omega) (by omega)).trans hh2⟩ ⟨?_, ?_, ?_, ?_, ?_, fun z hz => ?_⟩
        · rw [a2 0 (by omega) (by omega), hI14 _ _ rfl]; exact ht.1
        · rw [a2 1 (by omega) (by omega), hI14 _ _ rfl]; exact ht.2.1
        · rw [a2 2 (by omega) (by omega), hI14 _ _ rfl]; exact ht.2.2.1
        · rw [a2 3 (by omega) (by omega), hI14 _ _ rfl]; exact ht.2.2.2.1
        · rw [a2 4 (by omega) (by omega), hI14 _ _ rfl]; exact ht.2.2.2.2.1
        · rcases Nat.lt_or_ge z k with q | q
          · rw [hbk (3 + z) (by omega) (by omega), a2 (5 + z) (by omega) (by omega), hI14 _ _ rfl]
            exact ht.2.2.2.2.2 z q
          · obtain rfl : z = k := by omega
            rw [hbv, a1]
            exact ⟨by unfold kdA; decide, by unfold kdC; decide⟩
    have kj : ∀ (j : Nat), j < 6 → ∀ (o9 : Option Value), mhV l K mL_put kc ks Φ 200 [some (.ref 0), some (.retAddr 0), some (.int 0), some (.int 4), some (.int 3), some (.ref b), some (.int x6), some (.int (nI how)), some (.int (nI k)), o9] [.int (nI j)] S F I J P := by
      intro j hj o9
      refine mh_istore_9 dL_put_200 (q := 202) rfl ?_
      refine mh_iload_9 dL_put_202 (q := 204) rfl ?_
      refine mh_iconst_3 dL_put_204 (q := 205) rfl ?_
      refine mh_icmp_ge dL_put_205 (tgt := 213) (q := 208) rfl rfl (fun cv => ?_) (fun cv => ?_)
      · skip
        refine mh_iload_7 dL_put_213 (q := 215) rfl ?_
        refine mh_iconst_1 dL_put_215 (q := 216) rfl ?_
        refine mh_icmp_ne dL_put_216 (tgt := 223) (q := 219) rfl rfl (fun c1 => ?_) (fun c1 => ?_)
        · skip
          refine mh_iload_7 dL_put_223 (q := 225) rfl ?_
          refine mh_iconst_2 dL_put_225 (q := 226) rfl ?_
          refine mh_icmp_ne dL_put_226 (tgt := 233) (q := 229) rfl rfl (fun c2 => ?_) (fun c2 => ?_)
          · skip
            refine mh_iload_9 dL_put_233 (q := 235) rfl ?_
            refine mh_iconst_2 dL_put_235 (q := 236) rfl ?_
            refine mh_irem dL_put_236 (q := 237) rfl (by decide) ?_
            refine mh_iconst_2 dL_put_237 (q := 238) rfl ?_
            
            refine mh_imul dL_put_238 (q := 239) rfl ?_
            rw [show (nI j - nI j / 2 * 2) * 2 = nI (j % 2 * 2) from by rw [mh_ev j (by omega), show (2 : Int32) = nI 2 from rfl, pk_mul]]
            have hz : kdA (nI (j % 2 * 2)) := by
              rcases (show j % 2 = 0 ∨ j % 2 = 1 by omega) with e | e <;> rw [e] <;> unfold kdA <;> decide
            exact kk _ _ hz
          · skip
            refine mh_iconst_2 dL_put_229 (q := 230) rfl ?_
            refine mh_goto dL_put_230 (tgt := 239) rfl ?_
            exact kk _ _ (Or.inr (Or.inr rfl))
        · skip
          refine mh_iconst_0 dL_put_219 (q := 220) rfl ?_
          refine mh_goto dL_put_220 (tgt := 239) rfl ?_
          exact kk _ _ (Or.inl rfl)
      · skip
        refine mh_iload_9 dL_put_208 (q := 210) rfl ?_
        refine mh_goto dL_put_210 (tgt := 239) rfl ?_
        rcases (show j = 0 ∨ j = 1 ∨ j = 2 by rw [show (3 : Int32) = nI 3 from rfl, nI_leI (by decide) (by omega)] at cv; omega) with rfl | rfl | rfl
        · exact kk 0 _ (Or.inl rfl)
        · exact kk 1 _ (Or.inr (Or.inl rfl))
        · exact kk 2 _ (Or.inr (Or.inr rfl))
    refine mh_iload_8 dL_put_158 (q := 160) rfl ?_
    refine mh_aload_5 dL_put_160 (q := 162) rfl ?_
    refine mh_iconst_2 dL_put_162 (q := 163) rfl ?_
    refine mh_iald dL_put_163 (q := 164) rfl hb (vp_in_nI (n := 2) (by decide) (by decide)) ?_
    rw [hh2]
    refine mh_icmp_ge dL_put_164 (tgt := 295) (q := 167) rfl rfl (fun hh => absurd hh (by rw [nI_leI (by omega) (by omega)]; omega)) (fun _ => ?_)
    refine mh_aloadT_1 dL_put_167 (q := 168) rfl ?_
    refine mh_iload_2 dL_put_168 (q := 169) rfl ?_
    refine mh_iconst_1 dL_put_169 (q := 170) rfl ?_
    refine mh_iadd dL_put_170 (q := 171) rfl ?_
    refine mh_iload_8 dL_put_171 (q := 173) rfl ?_
    refine mh_iconst_5 dL_put_173 (q := 174) rfl ?_
    refine mh_irem dL_put_174 (q := 175) rfl (by decide) ?_
    rw [pk_rem (by omega) (by omega) (by omega) (a := k) (d := 5) |> fun e => (show nI k - nI k / 5 * 5 = nI (k % 5) from e)]
    refine mh_iadd dL_put_175 (q := 176) rfl ?_
    rw [show (0 : Int32) + 1 + nI (k % 5) = nI (1 + k % 5) from by rw [show (0 : Int32) + 1 = nI 1 from rfl, nI_add]]
    refine mh_callS2 ca_L_put_176 (q := 179) rfl (by simp [Value.category]) ⟨Nat.zero_le _, Nat.zero_le _⟩ ?_
    refine sp_L_cell hL (by omega) (fun xc => ?_)
    refine mh_iload_8 dL_put_179 (q := 181) rfl ?_
    refine mh_iconst_5 dL_put_181 (q := 182) rfl ?_
    refine mh_idiv dL_put_182 (q := 183) rfl (by decide) ?_
    refine mh_iconst_3 dL_put_183 (q := 184) rfl ?_
    refine mh_imul dL_put_184 (q := 185) rfl ?_
    refine mh_ishr dL_put_185 (q := 186) rfl ?_
    refine mh_iload_7 dL_put_186 (q := 188) rfl ?_
    refine mh_if_ne dL_put_188 (tgt := 195) (q := 191) rfl rfl (fun ch => ?_) (fun ch => ?_)
    · skip
      refine mh_bipush (v := 6) dL_put_195 (q := 197) rfl (by decide) ?_
      refine mh_callS2 ca_L_put_197 (q := 200) rfl (by simp [Value.category]) ⟨Nat.zero_le _, Nat.zero_le _⟩ ?_
      refine sp_L_some (n := 6) (by omega) (by omega) (fun j hj => ?_)
      exact kj j (by omega) _
    · skip
      refine mh_iconst_3 dL_put_191 (q := 192) rfl ?_
      refine mh_goto dL_put_192 (tgt := 197) rfl ?_
      refine mh_callS2 ca_L_put_197 (q := 200) rfl (by simp [Value.category]) ⟨Nat.zero_le _, Nat.zero_le _⟩ ?_
      refine sp_L_some (n := 3) (by omega) (by omega) (fun j hj => ?_)
      exact kj j (by omega) _
set_option maxHeartbeats 4000000 in
set_option maxRecDepth 100000 in
theorem sp_L_put {l : Launch} {K : mhX} {Φ : mhQ} {S : List mhS} {F : mhF} {I : mhI} {J : mhJ} {P : mhP} {b : Nat} (h6 : mhKX6 S) (hSh : mhSh S F P) (hL : K.2.2.2.2.1 ≤ 260) (hb : S[b]? = some (.inl (0, 50))) (hb2 : 21 ≤ b) (hΦ : ∀ w h F2 I2, gOk w h → (∀ k, ¬ k = 12 → F2 0 k = F 0 k) → lwSt S F2 P → lwHd I2 b w h → lwTx I2 b w h (gSides w h) → Φ (some (.int (nI (5 + gSides w h)))) S F2 I2 J P) : mhOk l K mL_put [.ref 0, .retAddr 0, .int 0, .int 4, .int 3, .ref b] S F I J P Φ := by
  obtain ⟨F0, hF0⟩ : ∃ F0 : mhF, F0 = F := ⟨F, rfl⟩
  have hf0 : ∀ k, ¬ k = 12 → F 0 k = F0 0 k := fun k _ => by rw [hF0]
  replace hΦ : ∀ w h, gOk w h → ∀ F2 I2, (∀ k, ¬ k = 12 → F2 0 k = F0 0 k) → lwSt S F2 P → lwHd I2 b w h → lwTx I2 b w h (gSides w h) → Φ (some (.int (nI (5 + gSides w h)))) S F2 I2 J P := fun w h g F2 I2 hf => hΦ w h F2 I2 g (fun k hk => (hf k hk).trans (by rw [hF0]))
  refine mhOk.of (by decide) (by decide) rfl (Nat.le_of_ble_eq_true rfl) ?_
  refine mh_aloadT_1 dL_put_0 (q := 1) rfl ?_
  refine mh_iload_2 dL_put_1 (q := 2) rfl ?_
  refine mh_callS2 ca_L_put_2 (q := 5) rfl (by simp [Value.category]) ⟨Nat.zero_le _, Nat.zero_le _⟩ ?_
  refine sp_L_cell (j := 0) hL (by omega) (fun x6 => ?_)
  refine mh_istore_6 dL_put_5 (q := 7) rfl ?_
  refine mh_aload_5 dL_put_7 (q := 9) rfl ?_
  refine mh_iconst_0 dL_put_9 (q := 10) rfl ?_
  refine mh_iconst_1 dL_put_10 (q := 11) rfl ?_
  refine mh_iload_6 dL_put_11 (q := 13) rfl ?_
  refine mh_iload_3 dL_put_13 (q := 14) rfl ?_
  refine mh_callS2 ca_L_put_14 (q := 17) rfl (by simp [Value.category]) ⟨Nat.zero_le _, Nat.zero_le _⟩ ?_
  refine sp_L_some (n := 4) (by omega) (by omega) (fun a ha => ?_)
  refine mh_iadd dL_put_17 (q := 18) rfl ?_
  rw [show (1 : Int32) + nI a = nI (1 + a) from nI_add 1 a]
  refine mh_iast dL_put_18 (q := 19) rfl hb (by decide) (vp_in_nI (n := 0) (by decide) (by decide)) ?_
  refine mh_aload_5 dL_put_19 (q := 21) rfl ?_
  refine mh_iconst_1 dL_put_21 (q := 22) rfl ?_
  refine mh_iconst_1 dL_put_22 (q := 23) rfl ?_
  refine mh_iload_6 dL_put_23 (q := 25) rfl ?_
  refine mh_iconst_3 dL_put_25 (q := 26) rfl ?_
  refine mh_ishr dL_put_26 (q := 27) rfl ?_
  refine mh_iload_4 dL_put_27 (q := 29) rfl ?_
  refine mh_callS2 ca_L_put_29 (q := 32) rfl (by simp [Value.category]) ⟨Nat.zero_le _, Nat.zero_le _⟩ ?_
  refine sp_L_some (n := 3) (by omega) (by omega) (fun e he => ?_)
  refine mh_iadd dL_put_32 (q := 33) rfl ?_
  rw [show (1 : Int32) + nI e = nI (1 + e) from nI_add 1 e]
  refine mh_iast dL_put_33 (q := 34) rfl hb (by decide) (vp_in_nI (n := 1) (by decide) (by decide)) ?_
  refine mhV_gI (fun I2 => (∀ c y, c ≠ b → I2 c y = I c y) ∧ I2 b 0 = nI (1 + a) ∧ I2 b 1 = nI (1 + e)) ⟨fun c y hc => (mhUI_ne hc).trans (mhUI_ne hc), by simp (decide := true) [mhUI], by simp (decide := true) [mhUI]⟩ (fun I hh => ?_)
  obtain ⟨-, hh0, hh1⟩ := hh
  refine mh_aload_5 dL_put_34 (q := 36) rfl ?_
  refine mh_iconst_2 dL_put_36 (q := 37) rfl ?_
  refine mh_iconst_3 dL_put_37 (q := 38) rfl ?_
  refine mh_aload_5 dL_put_38 (q := 40) rfl ?_
  refine mh_iconst_0 dL_put_40 (q := 41) rfl ?_
  refine mh_iald dL_put_41 (q := 42) rfl hb (vp_in_nI (n := 0) (by decide) (by decide)) ?_
  rw [hh0]
  refine mh_imul dL_put_42 (q := 43) rfl ?_
  refine mh_aload_5 dL_put_43 (q := 45) rfl ?_
  refine mh_iconst_1 dL_put_45 (q := 46) rfl ?_
  refine mh_iald dL_put_46 (q := 47) rfl hb (vp_in_nI (n := 1) (by decide) (by decide)) ?_
  rw [hh1]
  refine mh_imul dL_put_47 (q := 48) rfl ?_
  skip
  refine mh_aload_5 dL_put_48 (q := 50) rfl ?_
  refine mh_iconst_0 dL_put_50 (q := 51) rfl ?_
  refine mh_iald dL_put_51 (q := 52) rfl hb (vp_in_nI (n := 0) (by decide) (by decide)) ?_
  rw [hh0]
  refine mh_iadd dL_put_52 (q := 53) rfl ?_
  refine mh_aload_5 dL_put_53 (q := 55) rfl ?_
  refine mh_iconst_1 dL_put_55 (q := 56) rfl ?_
  refine mh_iald dL_put_56 (q := 57) rfl hb (vp_in_nI (n := 1) (by decide) (by decide)) ?_
  rw [hh1]
  refine mh_iadd dL_put_57 (q := 58) rfl ?_
  have g : gOk (1 + a) (1 + e) := ⟨by omega, by omega, by omega, by omega⟩
  rw [gSd g]
  refine mh_iast dL_put_58 (q := 59) rfl hb (by decide) (vp_in_nI (n := 2) (by decide) (by decide)) ?_
  refine mhV_gI (fun I2 => lwHd I2 b (1 + a) (1 + e)) ⟨by simp (decide := true) [mhUI, hh0], by simp (decide := true) [mhUI, hh1], by simp (decide := true) [mhUI]⟩ (fun I hh => ?_)
  refine mh_iload_6 dL_put_59 (q := 61) rfl ?_
  refine mh_bipush (v := 6) dL_put_61 (q := 63) rfl (by decide) ?_
  refine mh_ishr dL_put_63 (q := 64) rfl ?_
  refine mh_iconst_4 dL_put_64 (q := 65) rfl ?_
  refine mh_callS2 ca_L_put_65 (q := 68) rfl (by simp [Value.category]) ⟨Nat.zero_le _, Nat.zero_le _⟩ ?_
  refine sp_L_some (n := 4) (by omega) (by omega) (fun how hhow => ?_)
  refine mh_istore_7 dL_put_68 (q := 70) rfl ?_
  refine mh_aload_0 dL_put_70 (q := 71) rfl ?_
  refine mh_iconst_0 dL_put_71 (q := 72) rfl ?_
  refine mh_iconst_1 dL_put_72 (q := 73) rfl ?_
  refine mh_bipush (v := 60) dL_put_73 (q := 75) rfl (by decide) ?_
  refine mh_callV3 ca_L_put_75 (shX6_0 h6) (q := 78) rfl (by simp [Value.category]) ⟨Nat.zero_le _, Nat.zero_le _⟩ ?_
  refine lw_sheet h6 hSh (fun F2 I2 hf2 hi2 hs => ?_)
  refine mhV_gFI (fun F I => (∀ k, ¬ k = 12 → F 0 k = F0 0 k) ∧ lwHd I b (1 + a) (1 + e) ∧ lwSt S F P) ⟨fun k hk => (hf2 k hk).trans (hf0 k hk), ⟨(hi2 _ _ (by omega)).trans hh.1, (hi2 _ _ (by omega)).trans hh.2.1, (hi2 _ _ (by omega)).trans hh.2.2⟩, hs⟩ (fun F I hx => ?_)
  obtain ⟨hf, hh, hs⟩ := hx
  refine mh_iconst_1 dL_put_78 (q := 79) rfl ?_
  refine mh_icmp_ne dL_put_79 (tgt := 152) (q := 82) rfl rfl (fun hh => False.elim (by revert hh; decide)) (fun _ => ?_)
  refine mh_aload_0 dL_put_82 (q := 83) rfl ?_
  refine mh_iconst_0 dL_put_83 (q := 84) rfl ?_
  refine mh_iconst_0 dL_put_84 (q := 85) rfl ?_
  refine mh_bipush (v := 119) dL_put_85 (q := 87) rfl (by decide) ?_
  refine mh_callV3 ca_L_put_87 (shX6_0 h6) (q := 90) rfl (by simp [Value.category]) ⟨Nat.zero_le _, Nat.zero_le _⟩ ?_
  refine lw_put h6 hs (n := 0) (by omega) (by decide) (fun F2 I2 hf2 hi2 hs2 a1 a2 => ?_)
  refine mhV_gFI (fun F I => (∀ k, ¬ k = 12 → F 0 k = F0 0 k) ∧ lwHd I b (1 + a) (1 + e) ∧ lwSt S F P ∧ I 14 (nI 0) = 119) ⟨fun k hk => (hf2 k hk).trans (hf k hk), ⟨(hi2 _ _ (by omega)).trans hh.1, (hi2 _ _ (by omega)).trans hh.2.1, (hi2 _ _ (by omega)).trans hh.2.2⟩, hs2, a1⟩ (fun F I hx => ?_)
  obtain ⟨hf, hh, hs, t0⟩ := hx
  refine mh_iconst_1 dL_put_90 (q := 91) rfl ?_
  refine mh_icmp_ne dL_put_91 (tgt := 152) (q := 94) rfl rfl (fun hh => False.elim (by revert hh; decide)) (fun _ => ?_)
  refine mh_aload_0 dL_put_94 (q := 95) rfl ?_
  refine mh_iconst_0 dL_put_95 (q := 96) rfl ?_
  refine mh_iconst_1 dL_put_96 (q := 97) rfl ?_
  refine mh_bipush (v := 48) dL_put_97 (q := 99) rfl (by decide) ?_
  refine mh_aload_5 dL_put_99 (q := 101) rfl ?_
  refine mh_iconst_0 dL_put_101 (q := 102) rfl ?_
  refine mh_iald dL_put_102 (q := 103) rfl hb (vp_in_nI (n := 0) (by decide) (by decide)) ?_
  rw [hh.1]
  refine mh_iadd dL_put_103 (q := 104) rfl ?_
  rw [show (48 : Int32) + nI (1 + a) = nI (48 + (1 + a)) from nI_add 48 _]
  refine mh_callV3 ca_L_put_104 (shX6_0 h6) (q := 107) rfl (by simp [Value.category]) ⟨Nat.zero_le _, Nat.zero_le _⟩ ?_
  refine lw_put h6 hs (n := 1) (by omega) (cd_s _ (by omega)) (fun F2 I2 hf2 hi2 hs2 a1 a2 => ?_)
  refine mhV_gFI (fun F I => (∀ k, ¬ k = 12 → F 0 k = F0 0 k) ∧ lwHd I b (1 + a) (1 + e) ∧ lwSt S F P ∧ I 14 (nI 0) = 119 ∧ I 14 (nI 1) = nI (48 + (1 + a))) ⟨fun k hk => (hf2 k hk).trans (hf k hk), ⟨(hi2 _ _ (by omega)).trans hh.1, (hi2 _ _ (by omega)).trans hh.2.1, (hi2 _ _ (by omega)).trans hh.2.2⟩, hs2, (a2 0 (by omega) (by omega)).trans t0, a1⟩ (fun F I hx => ?_)
  obtain ⟨hf, hh, hs, t0, t1⟩ := hx
  refine mh_iconst_1 dL_put_107 (q := 108) rfl ?_
  refine mh_icmp_ne dL_put_108 (tgt := 152) (q := 111) rfl rfl (fun hh => False.elim (by revert hh; decide)) (fun _ => ?_)
  refine mh_aload_0 dL_put_111 (q := 112) rfl ?_
  refine mh_iconst_0 dL_put_112 (q := 113) rfl ?_
  refine mh_iconst_2 dL_put_113 (q := 114) rfl ?_
  refine mh_bipush (v := 104) dL_put_114 (q := 116) rfl (by decide) ?_
  refine mh_callV3 ca_L_put_116 (shX6_0 h6) (q := 119) rfl (by simp [Value.category]) ⟨Nat.zero_le _, Nat.zero_le _⟩ ?_
  refine lw_put h6 hs (n := 2) (by omega) (by decide) (fun F2 I2 hf2 hi2 hs2 a1 a2 => ?_)
  refine mhV_gFI (fun F I => (∀ k, ¬ k = 12 → F 0 k = F0 0 k) ∧ lwHd I b (1 + a) (1 + e) ∧ lwSt S F P ∧ I 14 (nI 0) = 119 ∧ I 14 (nI 1) = nI (48 + (1 + a)) ∧ I 14 (nI 2) = 104) ⟨fun k hk => (hf2 k hk).trans (hf k hk), ⟨(hi2 _ _ (by omega)).trans hh.1, (hi2 _ _ (by omega)).trans hh.2.1, (hi2 _ _ (by omega)).trans hh.2.2⟩, hs2, (a2 0 (by omega) (by omega)).trans t0, (a2 1 (by omega) (by omega)).trans t1, a1⟩ (fun F I hx => ?_)
  obtain ⟨hf, hh, hs, t0, t1, t2⟩ := hx
  refine mh_iconst_1 dL_put_119 (q := 120) rfl ?_
  refine mh_icmp_ne dL_put_120 (tgt := 152) (q := 123) rfl rfl (fun hh => False.elim (by revert hh; decide)) (fun _ => ?_)
  refine mh_aload_0 dL_put_123 (q := 124) rfl ?_
  refine mh_iconst_0 dL_put_124 (q := 125) rfl ?_
  refine mh_iconst_3 dL_put_125 (q := 126) rfl ?_
  refine mh_bipush (v := 48) dL_put_126 (q := 128) rfl (by decide) ?_
  refine mh_aload_5 dL_put_128 (q := 130) rfl ?_
  refine mh_iconst_1 dL_put_130 (q := 131) rfl ?_
  refine mh_iald dL_put_131 (q := 132) rfl hb (vp_in_nI (n := 1) (by decide) (by decide)) ?_
  rw [hh.2.1]
  refine mh_iadd dL_put_132 (q := 133) rfl ?_
  rw [show (48 : Int32) + nI (1 + e) = nI (48 + (1 + e)) from nI_add 48 _]
  refine mh_callV3 ca_L_put_133 (shX6_0 h6) (q := 136) rfl (by simp [Value.category]) ⟨Nat.zero_le _, Nat.zero_le _⟩ ?_
  refine lw_put h6 hs (n := 3) (by omega) (cd_s _ (by omega)) (fun F2 I2 hf2 hi2 hs2 a1 a2 => ?_)
  refine mhV_gFI (fun F I => (∀ k, ¬ k = 12 → F 0 k = F0 0 k) ∧ lwHd I b (1 + a) (1 + e) ∧ lwSt S F P ∧ I 14 (nI 0) = 119 ∧ I 14 (nI 1) = nI (48 + (1 + a)) ∧ I 14 (nI 2) = 104 ∧ I 14 (nI 3) = nI (48 + (1 + e))) ⟨fun k hk => (hf2 k hk).trans (hf k hk), ⟨(hi2 _ _ (by omega)).trans hh.1, (hi2 _ _ (by omega)).trans hh.2.1, (hi2 _ _ (by omega)).trans hh.2.2⟩, hs2, (a2 0 (by omega) (by omega)).trans t0, (a2 1 (by omega) (by omega)).trans t1, (a2 2 (by omega) (by omega)).trans t2, a1⟩ (fun F I hx => ?_)
  obtain ⟨hf, hh, hs, t0, t1, t2, t3⟩ := hx
  refine mh_iconst_1 dL_put_136 (q := 137) rfl ?_
  refine mh_icmp_ne dL_put_137 (tgt := 152) (q := 140) rfl rfl (fun hh => False.elim (by revert hh; decide)) (fun _ => ?_)
  refine mh_aload_0 dL_put_140 (q := 141) rfl ?_
  refine mh_iconst_0 dL_put_141 (q := 142) rfl ?_
  refine mh_iconst_4 dL_put_142 (q := 143) rfl ?_
  refine mh_bipush (v := 59) dL_put_143 (q := 145) rfl (by decide) ?_
  refine mh_callV3 ca_L_put_145 (shX6_0 h6) (q := 148) rfl (by simp [Value.category]) ⟨Nat.zero_le _, Nat.zero_le _⟩ ?_
  refine lw_put h6 hs (n := 4) (by omega) (by decide) (fun F2 I2 hf2 hi2 hs2 a1 a2 => ?_)
  refine mhV_gFI (fun F I => (∀ k, ¬ k = 12 → F 0 k = F0 0 k) ∧ lwHd I b (1 + a) (1 + e) ∧ lwSt S F P ∧ I 14 (nI 0) = 119 ∧ I 14 (nI 1) = nI (48 + (1 + a)) ∧ I 14 (nI 2) = 104 ∧ I 14 (nI 3) = nI (48 + (1 + e)) ∧ I 14 (nI 4) = 59) ⟨fun k hk => (hf2 k hk).trans (hf k hk), ⟨(hi2 _ _ (by omega)).trans hh.1, (hi2 _ _ (by omega)).trans hh.2.1, (hi2 _ _ (by omega)).trans hh.2.2⟩, hs2, (a2 0 (by omega) (by omega)).trans t0, (a2 1 (by omega) (by omega)).trans t1, (a2 2 (by omega) (by omega)).trans t2, (a2 3 (by omega) (by omega)).trans t3, a1⟩ (fun F I hx => ?_)
  obtain ⟨hf, hh, hs, t0, t1, t2, t3, t4⟩ := hx
  refine mh_iconst_1 dL_put_148 (q := 149) rfl ?_
  refine mh_icmp_eq dL_put_149 (tgt := 155) (q := 152) rfl rfl (fun _ => ?_) (fun hh => False.elim (by revert hh; decide))
  refine mh_iconst_0 dL_put_155 (q := 156) rfl ?_
  refine mh_istore_8 dL_put_156 (q := 158) rfl ?_
  exact lp_L_put h6 hL hb hb2 g hhow (hΦ _ _ g) (gSides (1 + a) (1 + e)) 0 F I none (by omega) hf hs hh ⟨t0, t1, t2, t3, t4, fun k hk => absurd hk (Nat.not_lt_zero k)⟩
