/-! the calls that change nothing that counts: class and reference answer alike -/
set_option maxHeartbeats 4000000 in
set_option maxRecDepth 100000 in
theorem pr_ofHouse {l : Launch} {K : mhX} {S : List mhS} {F : mhF} {I : mhI} {J : mhJ} {P : mhP} {Φ : mhQ} {Ψ : Int32 → mhQ} {a1 a2 : Int32} (h : mhIv S F I P) (h1 : ∀ (x : Int32) (S : List mhS) (F : mhF) (I : mhI) (J : mhJ) (P : mhP), mhKX7 S → mhOk l K mX7_ofHouse [.ref 21, .int a1, .int a2] S F I J P (Ψ x) → Φ (some (.int x)) S F I J P) (h2 : ∀ (x : Int32) (S : List mhS) (F : mhF) (I : mhI) (J : mhJ) (P : mhP), mhIv S F I P → Ψ x (some (.int x)) S F I J P) : mhOk l K mX6_ofHouse [.ref 0, .int a1, .int a2] S F I J P Φ := by
  obtain ⟨nh, wd, hg, aH, kd, sm, so, ln, cl, nr, aR, rp, np, pf, nw, aW, wk, tr, fa, hC, hR, hV, hq⟩ := h
  refine sp_X6_ofHouse hC.2.1.1 (fun g => ?_) (fun j hj ex => ?_)
  · skip
    refine h1 _ _ _ _ _ _ hR.1.1.1 ?_
    refine sp_X7_ofHouse hR.1.1 (fun g' => ?_) (fun j' hj' ex' => ?_)
    · skip
      exact pr_go h2 (rfl) ⟨_, _, _, _, _, _, _, _, _, _, _, _, _, _, _, _, _, _, _, hC, hR, hV, hq⟩
    · skip
      exact absurd ⟨j', hj', ex'⟩ g
  · skip
    refine h1 _ _ _ _ _ _ hR.1.1.1 ?_
    refine sp_X7_ofHouse hR.1.1 (fun g' => ?_) (fun j' hj' ex' => ?_)
    · skip
      exact absurd ⟨j, hj, ex⟩ g'
    · skip
      obtain rfl := iv_j hC hj hj' ex ex'
      have e1 : (fun v => mhCnt (fun k => I 27 (nI (50 * j + k))) v (gSides (wd j) (hg j))) = fun v => mhCnt (fun k => I (aH j + 1) (nI k)) v (gSides (wd j) (hg j)) := funext fun v => mhCnt_congr fun k hk => (hR.1.2.1 j hj k hk).trans (hC.2.1.2.1 j hj k hk).symm
      have e2 : mhSum (fun k => I 28 (nI (50 * j + k))) (gSides (wd j) (hg j)) = mhSum (fun k => I (aH j + 2) (nI k)) (gSides (wd j) (hg j)) := mhSum_congr fun k hk => (hR.1.2.2 j hj k hk).trans (hC.2.1.2.2.1 j hj k hk).symm
      exact pr_go h2 (by rw [e1, e2]) ⟨_, _, _, _, _, _, _, _, _, _, _, _, _, _, _, _, _, _, _, hC, hR, hV, hq⟩
set_option maxHeartbeats 4000000 in
set_option maxRecDepth 100000 in
theorem pr_ofSide {l : Launch} {K : mhX} {S : List mhS} {F : mhF} {I : mhI} {J : mhJ} {P : mhP} {Φ : mhQ} {Ψ : Int32 → mhQ} {a1 a2 a3 : Int32} (h : mhIv S F I P) (h1 : ∀ (x : Int32) (S : List mhS) (F : mhF) (I : mhI) (J : mhJ) (P : mhP), mhKX7 S → mhOk l K mX7_ofSide [.ref 21, .int a1, .int a2, .int a3] S F I J P (Ψ x) → Φ (some (.int x)) S F I J P) (h2 : ∀ (x : Int32) (S : List mhS) (F : mhF) (I : mhI) (J : mhJ) (P : mhP), mhIv S F I P → Ψ x (some (.int x)) S F I J P) : mhOk l K mX6_ofSide [.ref 0, .int a1, .int a2, .int a3] S F I J P Φ := by
  obtain ⟨nh, wd, hg, aH, kd, sm, so, ln, cl, nr, aR, rp, np, pf, nw, aW, wk, tr, fa, hC, hR, hV, hq⟩ := h
  refine sp_X6_ofSide hC.2.1.1 (fun g => ?_) (fun j r hj hr ex ey => ?_)
  · skip
    refine h1 _ _ _ _ _ _ hR.1.1.1 ?_
    refine sp_X7_ofSide hR.1.1 (fun g' => ?_) (fun j' r' hj' hr' ex' ey' => ?_)
    · skip
      exact pr_go h2 (rfl) ⟨_, _, _, _, _, _, _, _, _, _, _, _, _, _, _, _, _, _, _, hC, hR, hV, hq⟩
    · skip
      exact absurd ⟨j', hj', ex', r', hr', ey'⟩ g
  · skip
    refine h1 _ _ _ _ _ _ hR.1.1.1 ?_
    refine sp_X7_ofSide hR.1.1 (fun g' => ?_) (fun j' r' hj' hr' ex' ey' => ?_)
    · skip
      exact absurd ⟨j, hj, ex, r, hr, ey⟩ g'
    · skip
      obtain rfl := iv_j hC hj hj' ex ex'
      obtain rfl := iv_k hC hj hr hr' ey ey'
      exact pr_go h2 (by rw [hR.1.2.1 j hj r hr, hC.2.1.2.1 j hj r hr, hR.1.2.2 j hj r hr, hC.2.1.2.2.1 j hj r hr]) ⟨_, _, _, _, _, _, _, _, _, _, _, _, _, _, _, _, _, _, _, hC, hR, hV, hq⟩
set_option maxHeartbeats 4000000 in
set_option maxRecDepth 100000 in
theorem pr_side {l : Launch} {K : mhX} {S : List mhS} {F : mhF} {I : mhI} {J : mhJ} {P : mhP} {Φ : mhQ} {Ψ : Int32 → mhQ} {a1 a2 a3 : Int32} (h : mhIv S F I P) (h1 : ∀ (x : Int32) (S : List mhS) (F : mhF) (I : mhI) (J : mhJ) (P : mhP), mhKX7 S → mhOk l K mX7_side [.ref 21, .int a1, .int a2, .int a3] S F I J P (Ψ x) → Φ (some (.int x)) S F I J P) (h2 : ∀ (x : Int32) (S : List mhS) (F : mhF) (I : mhI) (J : mhJ) (P : mhP), mhIv S F I P → Ψ x (some (.int x)) S F I J P) : mhOk l K mX6_side [.ref 0, .int a1, .int a2, .int a3] S F I J P Φ := by
  obtain ⟨nh, wd, hg, aH, kd, sm, so, ln, cl, nr, aR, rp, np, pf, nw, aW, wk, tr, fa, hC, hR, hV, hq⟩ := h
  refine sp_X6_side hC.2.1.1 (fun g => ?_) (fun j r hj hr ex ey => ?_)
  · skip
    refine h1 _ _ _ _ _ _ hR.1.1.1 ?_
    refine sp_X7_side hR.1.1 (fun g' => ?_) (fun j' r' hj' hr' ex' ey' => ?_)
    · skip
      exact pr_go h2 (rfl) ⟨_, _, _, _, _, _, _, _, _, _, _, _, _, _, _, _, _, _, _, hC, hR, hV, hq⟩
    · skip
      exact absurd ⟨j', hj', ex', r', hr', ey'⟩ g
  · skip
    refine h1 _ _ _ _ _ _ hR.1.1.1 ?_
    refine sp_X7_side hR.1.1 (fun g' => ?_) (fun j' r' hj' hr' ex' ey' => ?_)
    · skip
      exact absurd ⟨j, hj, ex, r, hr, ey⟩ g'
    · skip
      obtain rfl := iv_j hC hj hj' ex ex'
      obtain rfl := iv_r hC hj hr hr' ey ey'
      exact pr_go h2 (rfl) ⟨_, _, _, _, _, _, _, _, _, _, _, _, _, _, _, _, _, _, _, hC, hR, hV, hq⟩
set_option maxHeartbeats 4000000 in
set_option maxRecDepth 100000 in
theorem pr_seen {l : Launch} {K : mhX} {S : List mhS} {F : mhF} {I : mhI} {J : mhJ} {P : mhP} {Φ : mhQ} {Ψ : Int32 → mhQ} {a1 a2 a3 a4 a5 a6 : Int32} (h : mhIv S F I P) (h1 : ∀ (x : Int32) (S : List mhS) (F : mhF) (I : mhI) (J : mhJ) (P : mhP), mhKX7 S → mhOk l K mX7_seen [.ref 21, .int a1, .int a2, .int a3, .int a4, .int a5, .int a6] S F I J P (Ψ x) → Φ (some (.int x)) S F I J P) (h2 : ∀ (x : Int32) (S : List mhS) (F : mhF) (I : mhI) (J : mhJ) (P : mhP), mhIv S F I P → Ψ x (some (.int x)) S F I J P) : mhOk l K mX6_seen [.ref 0, .int a1, .int a2, .int a3, .int a4, .int a5, .int a6] S F I J P Φ := by
  obtain ⟨nh, wd, hg, aH, kd, sm, so, ln, cl, nr, aR, rp, np, pf, nw, aW, wk, tr, fa, hC, hR, hV, hq⟩ := h
  refine sp_X6_seen hC.1.2 hC.2.1.1 hC.2.1.2.1 (fun g => ?_) (fun g gb => ?_) (fun j r m hj hr hm ex ey en ga F2 I2 hf => ?_)
  · skip
    refine h1 _ _ _ _ _ _ hR.1.1.1 ?_
    refine sp_X7_seen hR.1.1 hR.1.2.1 (fun g' => ?_) (fun g' gb' => ?_) (fun j' r' m' hj' hr' hm' ex' ey' en' ga' F2' I2' hf' => ?_)
    · skip
      exact pr_go h2 (rfl) ⟨_, _, _, _, _, _, _, _, _, _, _, _, _, _, _, _, _, _, _, hC, hR, hV, hq⟩
    · skip
      exact absurd g' g
    · skip
      exact absurd ⟨j', hj', ex', r', hr', ey'⟩ g
  · skip
    refine h1 _ _ _ _ _ _ hR.1.1.1 ?_
    refine sp_X7_seen hR.1.1 hR.1.2.1 (fun g' => ?_) (fun g' gb' => ?_) (fun j' r' m' hj' hr' hm' ex' ey' en' ga' F2' I2' hf' => ?_)
    · skip
      exact absurd g g'
    · skip
      exact pr_go h2 (rfl) ⟨_, _, _, _, _, _, _, _, _, _, _, _, _, _, _, _, _, _, _, hC, hR, hV, hq⟩
    · skip
      exact absurd ga' gb
  · skip
    obtain ⟨hC, hR⟩ := iv_frC hf hC hR
    refine h1 _ _ _ _ _ _ hR.1.1.1 ?_
    refine sp_X7_seen hR.1.1 hR.1.2.1 (fun g' => ?_) (fun g' gb' => ?_) (fun j' r' m' hj' hr' hm' ex' ey' en' ga' F2' I2' hf' => ?_)
    · skip
      exact absurd ⟨j, hj, ex, r, hr, ey⟩ g'
    · skip
      exact absurd ga gb'
    · skip
      obtain rfl := iv_j hC hj hj' ex ex'
      obtain rfl := iv_r hC hj hr hr' ey ey'
      obtain rfl := iv_m (by omega) (by omega) en en'
      obtain ⟨hC, hR⟩ := iv_frM hf' hC hR
      exact pr_go h2 (rfl) ⟨_, _, _, _, _, _, _, _, _, _, _, _, _, _, _, _, _, _, _, hC, hR, hV, hq⟩
theorem le_iv200 {x : Int32} (h : 200 ≤ x) : 0 ≤ x := by grind
theorem le_ivn {x : Int32} {m : Nat} (h : m < 200) (e : x = nI m) : 0 ≤ x := by subst e; exact (nI_leI (a := 0) (by decide) (by omega)).mpr (Nat.zero_le _)
theorem lt_ivn {x : Int32} {m : Nat} (h : m < 200) (e : x = nI m) : ¬ 200 ≤ x := by subst e; intro q; have := (nI_leI (a := 200) (by decide) (by omega)).mp q; omega
set_option maxHeartbeats 4000000 in
set_option maxRecDepth 100000 in
theorem pr_met {l : Launch} {K : mhX} {S : List mhS} {F : mhF} {I : mhI} {J : mhJ} {P : mhP} {Φ : mhQ} {Ψ : Int32 → mhQ} {a1 a2 a3 a4 a5 : Int32} (h : mhIv S F I P) (h1 : ∀ (x : Int32) (S : List mhS) (F : mhF) (I : mhI) (J : mhJ) (P : mhP), mhKX7 S → mhOk l K mX7_met [.ref 21, .int a1, .int a2, .int a3, .int a4, .int a5] S F I J P (Ψ x) → Φ (some (.int x)) S F I J P) (h2 : ∀ (x : Int32) (S : List mhS) (F : mhF) (I : mhI) (J : mhJ) (P : mhP), mhIv S F I P → Ψ x (some (.int x)) S F I J P) : mhOk l K mX6_met [.ref 0, .int a1, .int a2, .int a3, .int a4, .int a5] S F I J P Φ := by
  obtain ⟨nh, wd, hg, aH, kd, sm, so, ln, cl, nr, aR, rp, np, pf, nw, aW, wk, tr, fa, hC, hR, hV, hq⟩ := h
  refine sp_X6_met hC.1.2 hC.2.1.1 hC.2.1.2.1 (fun g => ?_) (fun g gb => ?_) (fun g gf => ?_) (fun j r m hj hr hm ex ey en ga F2 I2 hf => ?_)
  · skip
    refine h1 _ _ _ _ _ _ hR.1.1.1 ?_
    refine sp_X7_met hR.1.1 hR.1.2.1 (fun g' => ?_) (fun g' gb' => ?_) (fun g' gf' => ?_) (fun j' r' m' hj' hr' hm' ex' ey' en' ga' F2' I2' hf' => ?_)
    · skip
      exact pr_go h2 (rfl) ⟨_, _, _, _, _, _, _, _, _, _, _, _, _, _, _, _, _, _, _, hC, hR, hV, hq⟩
    · skip
      exact absurd g' g
    · skip
      exact absurd g' g
    · skip
      exact absurd ⟨j', hj', ex', r', hr', ey'⟩ g
  · skip
    refine h1 _ _ _ _ _ _ hR.1.1.1 ?_
    refine sp_X7_met hR.1.1 hR.1.2.1 (fun g' => ?_) (fun g' gb' => ?_) (fun g' gf' => ?_) (fun j' r' m' hj' hr' hm' ex' ey' en' ga' F2' I2' hf' => ?_)
    · skip
      exact absurd g g'
    · skip
      exact pr_go h2 (rfl) ⟨_, _, _, _, _, _, _, _, _, _, _, _, _, _, _, _, _, _, _, hC, hR, hV, hq⟩
    · skip
      exact absurd ⟨gf'.1, le_iv200 gf'.2⟩ gb
    · skip
      exact absurd ⟨ga', le_ivn hm' en'⟩ gb
  · skip
    refine h1 _ _ _ _ _ _ hR.1.1.1 ?_
    refine sp_X7_met hR.1.1 hR.1.2.1 (fun g' => ?_) (fun g' gb' => ?_) (fun g' gf' => ?_) (fun j' r' m' hj' hr' hm' ex' ey' en' ga' F2' I2' hf' => ?_)
    · skip
      exact absurd g g'
    · skip
      exact absurd ⟨gf.1, le_iv200 gf.2⟩ gb'
    · skip
      exact pr_go h2 (rfl) ⟨_, _, _, _, _, _, _, _, _, _, _, _, _, _, _, _, _, _, _, hC, hR, hV, hq⟩
    · skip
      exact absurd gf.2 (lt_ivn hm' en')
  · skip
    obtain ⟨hC, hR⟩ := iv_frC hf hC hR
    refine h1 _ _ _ _ _ _ hR.1.1.1 ?_
    refine sp_X7_met hR.1.1 hR.1.2.1 (fun g' => ?_) (fun g' gb' => ?_) (fun g' gf' => ?_) (fun j' r' m' hj' hr' hm' ex' ey' en' ga' F2' I2' hf' => ?_)
    · skip
      exact absurd ⟨j, hj, ex, r, hr, ey⟩ g'
    · skip
      exact absurd ⟨ga, le_ivn hm en⟩ gb'
    · skip
      exact absurd gf'.2 (lt_ivn hm en)
    · skip
      obtain rfl := iv_j hC hj hj' ex ex'
      obtain rfl := iv_r hC hj hr hr' ey ey'
      obtain rfl := iv_m (by omega) (by omega) en en'
      obtain ⟨hC, hR⟩ := iv_frM hf' hC hR
      exact pr_go h2 (rfl) ⟨_, _, _, _, _, _, _, _, _, _, _, _, _, _, _, _, _, _, _, hC, hR, hV, hq⟩
set_option maxHeartbeats 4000000 in
set_option maxRecDepth 100000 in
theorem pr_image {l : Launch} {K : mhX} {S : List mhS} {F : mhF} {I : mhI} {J : mhJ} {P : mhP} {Φ : mhQ} {Ψ : Int32 → mhQ} {a1 a2 a3 a4 : Int32} (h : mhIv S F I P) (h1 : ∀ (x : Int32) (S : List mhS) (F : mhF) (I : mhI) (J : mhJ) (P : mhP), mhKX7 S → mhOk l K mX7_image [.ref 21, .int a1, .int a2, .int a3, .int a4] S F I J P (Ψ x) → Φ (some (.int x)) S F I J P) (h2 : ∀ (x : Int32) (S : List mhS) (F : mhF) (I : mhI) (J : mhJ) (P : mhP), mhIv S F I P → Ψ x (some (.int x)) S F I J P) : mhOk l K mX6_image [.ref 0, .int a1, .int a2, .int a3, .int a4] S F I J P Φ := by
  obtain ⟨nh, wd, hg, aH, kd, sm, so, ln, cl, nr, aR, rp, np, pf, nw, aW, wk, tr, fa, hC, hR, hV, hq⟩ := h
  refine sp_X6_image hC.1.2 hC.2.1.1 hC.2.1.2.1 (fun g => ?_) (fun g gb => ?_) (fun j r hj hr ex ey ga F2 I2 hf => ?_)
  · skip
    refine h1 _ _ _ _ _ _ hR.1.1.1 ?_
    refine sp_X7_image hR.1.1 hR.1.2.1 (fun g' => ?_) (fun g' gb' => ?_) (fun j' r' hj' hr' ex' ey' ga' F2' I2' hf' => ?_)
    · skip
      exact pr_go h2 (rfl) ⟨_, _, _, _, _, _, _, _, _, _, _, _, _, _, _, _, _, _, _, hC, hR, hV, hq⟩
    · skip
      exact absurd g' g
    · skip
      exact absurd ⟨j', hj', ex', r', hr', ey'⟩ g
  · skip
    refine h1 _ _ _ _ _ _ hR.1.1.1 ?_
    refine sp_X7_image hR.1.1 hR.1.2.1 (fun g' => ?_) (fun g' gb' => ?_) (fun j' r' hj' hr' ex' ey' ga' F2' I2' hf' => ?_)
    · skip
      exact absurd g g'
    · skip
      exact pr_go h2 (rfl) ⟨_, _, _, _, _, _, _, _, _, _, _, _, _, _, _, _, _, _, _, hC, hR, hV, hq⟩
    · skip
      exact absurd ga' gb
  · skip
    obtain ⟨hC, hR⟩ := iv_frC hf hC hR
    refine h1 _ _ _ _ _ _ hR.1.1.1 ?_
    refine sp_X7_image hR.1.1 hR.1.2.1 (fun g' => ?_) (fun g' gb' => ?_) (fun j' r' hj' hr' ex' ey' ga' F2' I2' hf' => ?_)
    · skip
      exact absurd ⟨j, hj, ex, r, hr, ey⟩ g'
    · skip
      exact absurd ga gb'
    · skip
      obtain rfl := iv_j hC hj hj' ex ex'
      obtain rfl := iv_r hC hj hr hr' ey ey'
      obtain ⟨hC, hR⟩ := iv_frM hf' hC hR
      exact pr_go h2 (rfl) ⟨_, _, _, _, _, _, _, _, _, _, _, _, _, _, _, _, _, _, _, hC, hR, hV, hq⟩
set_option maxHeartbeats 4000000 in
set_option maxRecDepth 100000 in
theorem pr_images {l : Launch} {K : mhX} {S : List mhS} {F : mhF} {I : mhI} {J : mhJ} {P : mhP} {Φ : mhQ} {Ψ : Int32 → mhQ} {a1 a2 a3 a4 a5 : Int32} (h : mhIv S F I P) (h1 : ∀ (x : Int32) (S : List mhS) (F : mhF) (I : mhI) (J : mhJ) (P : mhP), mhKX7 S → mhOk l K mX7_images [.ref 21, .int a1, .int a2, .int a3, .int a4, .int a5] S F I J P (Ψ x) → Φ (some (.int x)) S F I J P) (h2 : ∀ (x : Int32) (S : List mhS) (F : mhF) (I : mhI) (J : mhJ) (P : mhP), mhIv S F I P → Ψ x (some (.int x)) S F I J P) : mhOk l K mX6_images [.ref 0, .int a1, .int a2, .int a3, .int a4, .int a5] S F I J P Φ := by
  obtain ⟨nh, wd, hg, aH, kd, sm, so, ln, cl, nr, aR, rp, np, pf, nw, aW, wk, tr, fa, hC, hR, hV, hq⟩ := h
  refine sp_X6_images hC.1.2 hC.2.1.1 hC.2.1.2.1 (fun g => ?_) (fun g gb => ?_) (fun j r r2 gn hj hr hr2 hg1 hg24 ex ey ez eg ga F2 I2 hf => ?_)
  · skip
    refine h1 _ _ _ _ _ _ hR.1.1.1 ?_
    refine sp_X7_images hR.1.1 hR.1.2.1 (fun g' => ?_) (fun g' gb' => ?_) (fun j' r' r2' gn' hj' hr' hr2' hg1' hg24' ex' ey' ez' eg' ga' F2' I2' hf' => ?_)
    · skip
      exact pr_go h2 (rfl) ⟨_, _, _, _, _, _, _, _, _, _, _, _, _, _, _, _, _, _, _, hC, hR, hV, hq⟩
    · skip
      exact absurd g' g
    · skip
      exact absurd ⟨⟨j', hj', ex', r', hr', ey'⟩, ⟨j', hj', ex', r2', hr2', ez'⟩⟩ g
  · skip
    refine h1 _ _ _ _ _ _ hR.1.1.1 ?_
    refine sp_X7_images hR.1.1 hR.1.2.1 (fun g' => ?_) (fun g' gb' => ?_) (fun j' r' r2' gn' hj' hr' hr2' hg1' hg24' ex' ey' ez' eg' ga' F2' I2' hf' => ?_)
    · skip
      exact absurd g g'
    · skip
      exact pr_go h2 (rfl) ⟨_, _, _, _, _, _, _, _, _, _, _, _, _, _, _, _, _, _, _, hC, hR, hV, hq⟩
    · skip
      exact absurd ga' gb
  · skip
    obtain ⟨hC, hR⟩ := iv_frS hf hC hR
    refine h1 _ _ _ _ _ _ hR.1.1.1 ?_
    refine sp_X7_images hR.1.1 hR.1.2.1 (fun g' => ?_) (fun g' gb' => ?_) (fun j' r' r2' gn' hj' hr' hr2' hg1' hg24' ex' ey' ez' eg' ga' F2' I2' hf' => ?_)
    · skip
      exact absurd ⟨⟨j, hj, ex, r, hr, ey⟩, ⟨j, hj, ex, r2, hr2, ez⟩⟩ g'
    · skip
      exact absurd ga gb'
    · skip
      obtain rfl := iv_j hC hj hj' ex ex'
      obtain rfl := iv_r hC hj hr hr' ey ey'
      obtain rfl := iv_r hC hj hr2 hr2' ez ez'
      obtain rfl := iv_m (by omega) (by omega) eg eg'
      obtain ⟨hC, hR⟩ := iv_frM hf' hC hR
      exact pr_go h2 (rfl) ⟨_, _, _, _, _, _, _, _, _, _, _, _, _, _, _, _, _, _, _, hC, hR, hV, hq⟩
set_option maxHeartbeats 4000000 in
set_option maxRecDepth 100000 in
theorem pr_spots {l : Launch} {K : mhX} {S : List mhS} {F : mhF} {I : mhI} {J : mhJ} {P : mhP} {Φ : mhQ} {Ψ : Int32 → mhQ} {a1 : Int32} (h : mhIv S F I P) (h1 : ∀ (x : Int32) (S : List mhS) (F : mhF) (I : mhI) (J : mhJ) (P : mhP), mhKX7 S → mhOk l K mX7_spots [.ref 21, .int a1] S F I J P (Ψ x) → Φ (some (.int x)) S F I J P) (h2 : ∀ (x : Int32) (S : List mhS) (F : mhF) (I : mhI) (J : mhJ) (P : mhP), mhIv S F I P → Ψ x (some (.int x)) S F I J P) : mhOk l K mX6_spots [.ref 0, .int a1] S F I J P Φ := by
  obtain ⟨nh, wd, hg, aH, kd, sm, so, ln, cl, nr, aR, rp, np, pf, nw, aW, wk, tr, fa, hC, hR, hV, hq⟩ := h
  refine sp_X6_spots hC.1.2 hC.2.1.1 hC.2.1.2.1 hC.2.2.2.1 hV.1 (fun g => ?_) (fun j hj ex F2 I2 hf => ?_)
  · skip
    refine h1 _ _ _ _ _ _ hR.1.1.1 ?_
    refine sp_X7_spots hR.1.1 hR.1.2.1 hR.2.2.1 hV.1 (fun g' => ?_) (fun j' hj' ex' F2' I2' hf' => ?_)
    · skip
      exact pr_go h2 (rfl) ⟨_, _, _, _, _, _, _, _, _, _, _, _, _, _, _, _, _, _, _, hC, hR, hV, hq⟩
    · skip
      exact absurd ⟨j', hj', ex'⟩ g
  · skip
    obtain ⟨hC, hR⟩ := iv_frC hf hC hR
    refine h1 _ _ _ _ _ _ hR.1.1.1 ?_
    refine sp_X7_spots hR.1.1 hR.1.2.1 hR.2.2.1 hV.1 (fun g' => ?_) (fun j' hj' ex' F2' I2' hf' => ?_)
    · skip
      exact absurd ⟨j, hj, ex⟩ g'
    · skip
      obtain rfl := iv_j hC hj hj' ex ex'
      obtain ⟨hC, hR⟩ := iv_frM hf' hC hR
      exact pr_go h2 (rfl) ⟨_, _, _, _, _, _, _, _, _, _, _, _, _, _, _, _, _, _, _, hC, hR, hV, hq⟩
set_option maxHeartbeats 4000000 in
set_option maxRecDepth 100000 in
theorem pr_taken {l : Launch} {K : mhX} {S : List mhS} {F : mhF} {I : mhI} {J : mhJ} {P : mhP} {Φ : mhQ} {Ψ : Int32 → mhQ} {a1 : Int32} (h : mhIv S F I P) (h1 : ∀ (x : Int32) (S : List mhS) (F : mhF) (I : mhI) (J : mhJ) (P : mhP), mhKX7 S → mhOk l K mX7_taken [.ref 21, .int a1] S F I J P (Ψ x) → Φ (some (.int x)) S F I J P) (h2 : ∀ (x : Int32) (S : List mhS) (F : mhF) (I : mhI) (J : mhJ) (P : mhP), mhIv S F I P → Ψ x (some (.int x)) S F I J P) : mhOk l K mX6_taken [.ref 0, .int a1] S F I J P Φ := by
  obtain ⟨nh, wd, hg, aH, kd, sm, so, ln, cl, nr, aR, rp, np, pf, nw, aW, wk, tr, fa, hC, hR, hV, hq⟩ := h
  refine sp_X6_taken hC.1.2 hC.2.1.1 hC.2.1.2.1 hC.2.2.2.2.1 hV.2.1 (fun g => ?_) (fun g gz => ?_) (fun j hj ex hz F2 I2 hf => ?_)
  · skip
    refine h1 _ _ _ _ _ _ hR.1.1.1 ?_
    refine sp_X7_taken hR.1.1 hR.1.2.1 hR.2.2.2.1 hV.2.1 (fun g' => ?_) (fun g' gz' => ?_) (fun j' hj' ex' hz' F2' I2' hf' => ?_)
    · skip
      exact pr_go h2 (rfl) ⟨_, _, _, _, _, _, _, _, _, _, _, _, _, _, _, _, _, _, _, hC, hR, hV, hq⟩
    · skip
      exact absurd g' g
    · skip
      exact absurd ⟨j', hj', ex'⟩ g
  · skip
    refine h1 _ _ _ _ _ _ hR.1.1.1 ?_
    refine sp_X7_taken hR.1.1 hR.1.2.1 hR.2.2.2.1 hV.2.1 (fun g' => ?_) (fun g' gz' => ?_) (fun j' hj' ex' hz' F2' I2' hf' => ?_)
    · skip
      exact absurd g g'
    · skip
      exact pr_go h2 (rfl) ⟨_, _, _, _, _, _, _, _, _, _, _, _, _, _, _, _, _, _, _, hC, hR, hV, hq⟩
    · skip
      exact absurd gz hz'
  · skip
    obtain ⟨hC, hR⟩ := iv_frC hf hC hR
    refine h1 _ _ _ _ _ _ hR.1.1.1 ?_
    refine sp_X7_taken hR.1.1 hR.1.2.1 hR.2.2.2.1 hV.2.1 (fun g' => ?_) (fun g' gz' => ?_) (fun j' hj' ex' hz' F2' I2' hf' => ?_)
    · skip
      exact absurd ⟨j, hj, ex⟩ g'
    · skip
      exact absurd gz' hz
    · skip
      obtain rfl := iv_j hC hj hj' ex ex'
      obtain ⟨hC, hR⟩ := iv_frM hf' hC hR
      exact pr_go h2 (rfl) ⟨_, _, _, _, _, _, _, _, _, _, _, _, _, _, _, _, _, _, _, hC, hR, hV, hq⟩
set_option maxHeartbeats 4000000 in
set_option maxRecDepth 100000 in
theorem pr_shut {l : Launch} {K : mhX} {S : List mhS} {F : mhF} {I : mhI} {J : mhJ} {P : mhP} {Φ : mhQ} {Ψ : Int32 → mhQ} {a1 : Int32} (h : mhIv S F I P) (h1 : ∀ (x : Int32) (S : List mhS) (F : mhF) (I : mhI) (J : mhJ) (P : mhP), mhKX7 S → mhOk l K mX7_shut [.ref 21, .int a1] S F I J P (Ψ x) → Φ (some (.int x)) S F I J P) (h2 : ∀ (x : Int32) (S : List mhS) (F : mhF) (I : mhI) (J : mhJ) (P : mhP), mhIv S F I P → Ψ x (some (.int x)) S F I J P) : mhOk l K mX6_shut [.ref 0, .int a1] S F I J P Φ := by
  obtain ⟨nh, wd, hg, aH, kd, sm, so, ln, cl, nr, aR, rp, np, pf, nw, aW, wk, tr, fa, hC, hR, hV, hq⟩ := h
  refine sp_X6_shut hC.2.1.1 hC.2.1.2.1 (fun g => ?_) (fun j hj ex z I2 hA hf => ?_)
  · skip
    refine h1 _ _ _ _ _ _ hR.1.1.1 ?_
    refine sp_X7_shut hR.1.1 hR.1.2.1 (fun g' => ?_) (fun j' hj' ex' z' I2' hA' hf' => ?_)
    · skip
      exact pr_go h2 (rfl) ⟨_, _, _, _, _, _, _, _, _, _, _, _, _, _, _, _, _, _, _, hC, hR, hV, hq⟩
    · skip
      exact absurd ⟨j', hj', ex'⟩ g
  · skip
    obtain ⟨hC, hR⟩ := iv_frH hj hf hC hR
    refine h1 _ _ _ _ _ _ hR.1.1.1 ?_
    refine sp_X7_shut hR.1.1 hR.1.2.1 (fun g' => ?_) (fun j' hj' ex' z' I2' hA' hf' => ?_)
    · skip
      exact absurd ⟨j, hj, ex⟩ g'
    · skip
      obtain rfl := iv_j hC hj hj' ex ex'
      obtain ⟨hC, hR⟩ := iv_fr47 hf' hC hR
      exact pr_go h2 (shA_un hA' hA) ⟨_, _, _, _, _, _, _, _, _, _, _, _, _, _, _, _, _, _, _, hC, hR, hV, hq⟩
set_option maxHeartbeats 4000000 in
set_option maxRecDepth 100000 in
theorem pr_far {l : Launch} {K : mhX} {S : List mhS} {F : mhF} {I : mhI} {J : mhJ} {P : mhP} {Φ : mhQ} {Ψ : Int32 → mhQ} {a1 a2 : Int32} (h : mhIv S F I P) (h1 : ∀ (x : Int32) (S : List mhS) (F : mhF) (I : mhI) (J : mhJ) (P : mhP), mhKX7 S → mhOk l K mX7_far [.ref 21, .int a1, .int a2] S F I J P (Ψ x) → Φ (some (.int x)) S F I J P) (h2 : ∀ (x : Int32) (S : List mhS) (F : mhF) (I : mhI) (J : mhJ) (P : mhP), mhIv S F I P → Ψ x (some (.int x)) S F I J P) : mhOk l K mX6_far [.ref 0, .int a1, .int a2] S F I J P Φ := by
  obtain ⟨nh, wd, hg, aH, kd, sm, so, ln, cl, nr, aR, rp, np, pf, nw, aW, wk, tr, fa, hC, hR, hV, hq⟩ := h
  refine sp_X6_far hC.2.1.1 hC.2.1.2.1 (fun g => ?_) (fun j r hj hr ex ey z I2 hA hf => ?_)
  · skip
    refine h1 _ _ _ _ _ _ hR.1.1.1 ?_
    refine sp_X7_far hR.1.1 hR.1.2.1 (fun g' => ?_) (fun j' r' hj' hr' ex' ey' z' I2' hA' hf' => ?_)
    · skip
      exact pr_go h2 (rfl) ⟨_, _, _, _, _, _, _, _, _, _, _, _, _, _, _, _, _, _, _, hC, hR, hV, hq⟩
    · skip
      exact absurd ⟨j', hj', ex', r', hr', ey'⟩ g
  · skip
    obtain ⟨hC, hR⟩ := iv_frH hj hf hC hR
    refine h1 _ _ _ _ _ _ hR.1.1.1 ?_
    refine sp_X7_far hR.1.1 hR.1.2.1 (fun g' => ?_) (fun j' r' hj' hr' ex' ey' z' I2' hA' hf' => ?_)
    · skip
      exact absurd ⟨j, hj, ex, r, hr, ey⟩ g'
    · skip
      obtain rfl := iv_j hC hj hj' ex ex'
      obtain rfl := iv_r hC hj hr hr' ey ey'
      obtain ⟨hC, hR⟩ := iv_fr47 hf' hC hR
      exact pr_go h2 (faA_un hA' hA) ⟨_, _, _, _, _, _, _, _, _, _, _, _, _, _, _, _, _, _, _, hC, hR, hV, hq⟩
set_option maxHeartbeats 4000000 in
set_option maxRecDepth 100000 in
theorem pr_opened {l : Launch} {K : mhX} {S : List mhS} {F : mhF} {I : mhI} {J : mhJ} {P : mhP} {Φ : mhQ} {Ψ : Int32 → mhQ} {a1 a2 a3 : Int32} (h : mhIv S F I P) (h1 : ∀ (x : Int32) (S : List mhS) (F : mhF) (I : mhI) (J : mhJ) (P : mhP), mhKX7 S → mhOk l K mX7_opened [.ref 21, .int a1, .int a2, .int a3] S F I J P (Ψ x) → Φ (some (.int x)) S F I J P) (h2 : ∀ (x : Int32) (S : List mhS) (F : mhF) (I : mhI) (J : mhJ) (P : mhP), mhIv S F I P → Ψ x (some (.int x)) S F I J P) : mhOk l K mX6_opened [.ref 0, .int a1, .int a2, .int a3] S F I J P Φ := by
  obtain ⟨nh, wd, hg, aH, kd, sm, so, ln, cl, nr, aR, rp, np, pf, nw, aW, wk, tr, fa, hC, hR, hV, hq⟩ := h
  refine sp_X6_opened hC.2.1.1 hC.2.1.2.1 (fun g => ?_) (fun g gb => ?_) (fun j m hj ex en hk hd hm z A B F2 I2 hA hf => ?_)
  · skip
    refine h1 _ _ _ _ _ _ hR.1.1.1 ?_
    refine sp_X7_opened hR.1.1 hR.1.2.1 (fun g' => ?_) (fun g' gb' => ?_) (fun j' m' hj' ex' en' hk' hd' hm' z' A' B' F2' I2' hA' hF' hf' => ?_)
    · skip
      exact pr_go h2 (rfl) ⟨_, _, _, _, _, _, _, _, _, _, _, _, _, _, _, _, _, _, _, hC, hR, hV, hq⟩
    · skip
      exact absurd g' g
    · skip
      exact absurd ⟨⟨j', hj', ex'⟩, hk'⟩ g
  · skip
    refine h1 _ _ _ _ _ _ hR.1.1.1 ?_
    refine sp_X7_opened hR.1.1 hR.1.2.1 (fun g' => ?_) (fun g' gb' => ?_) (fun j' m' hj' ex' en' hk' hd' hm' z' A' B' F2' I2' hA' hF' hf' => ?_)
    · skip
      exact absurd g g'
    · skip
      exact pr_go h2 (rfl) ⟨_, _, _, _, _, _, _, _, _, _, _, _, _, _, _, _, _, _, _, hC, hR, hV, hq⟩
    · skip
      exact absurd hd' gb
  · skip
    obtain ⟨hC, hR⟩ := iv_frH hj hf hC hR
    refine h1 _ _ _ _ _ _ hR.1.1.1 ?_
    refine sp_X7_opened hR.1.1 hR.1.2.1 (fun g' => ?_) (fun g' gb' => ?_) (fun j' m' hj' ex' en' hk' hd' hm' z' A' B' F2' I2' hA' hF' hf' => ?_)
    · skip
      exact absurd ⟨⟨j, hj, ex⟩, hk⟩ g'
    · skip
      exact absurd hd gb'
    · skip
      obtain rfl := iv_j hC hj hj' ex ex'
      obtain rfl := iv_m (by omega) (by omega) en en'
      obtain ⟨hC, hR⟩ := iv_frO hF' hf' hC hR
      exact pr_go h2 (by rw [(opA_un hA' hA).1, (opA_un hA' hA).2.1, (opA_un hA' hA).2.2]) ⟨_, _, _, _, _, _, _, _, _, _, _, _, _, _, _, _, _, _, _, hC, hR, hV, hq⟩
set_option maxHeartbeats 4000000 in
set_option maxRecDepth 100000 in
theorem pr_changed {l : Launch} {K : mhX} {S : List mhS} {F : mhF} {I : mhI} {J : mhJ} {P : mhP} {Φ : mhQ} {Ψ : Int64 → mhQ} {a1 a2 : Int32} (h : mhIv S F I P) (h1 : ∀ (x : Int64) (S : List mhS) (F : mhF) (I : mhI) (J : mhJ) (P : mhP), mhKX7 S → mhOk l K mX7_changed [.ref 21, .int a1, .int a2] S F I J P (Ψ x) → Φ (some (.long x)) S F I J P) (h2 : ∀ (x : Int64) (S : List mhS) (F : mhF) (I : mhI) (J : mhJ) (P : mhP), mhIv S F I P → Ψ x (some (.long x)) S F I J P) : mhOk l K mX6_changed [.ref 0, .int a1, .int a2] S F I J P Φ := by
  obtain ⟨nh, wd, hg, aH, kd, sm, so, ln, cl, nr, aR, rp, np, pf, nw, aW, wk, tr, fa, hC, hR, hV, hq⟩ := h
  refine sp_X6_changed hC.1.1 hC.2.1.1 hC.2.1.2.1 hC.2.1.2.2.2 (fun g => ?_) (fun j j2 hj hj2 ex ey hne hno F2 I2 hf => ?_) (fun j j2 hj hj2 ex ey hne hok F2 I2 hf => ?_)
  · skip
    refine h1 _ _ _ _ _ _ hR.1.1.1 ?_
    refine sp_X7_changed hR.1.1 hR.1.2.1 (fun g' => ?_) (fun j' j2' hj' hj2' ex' ey' hne' hno' F2' I2' J2' hf' => ?_) (fun j' j2' hj' hj2' ex' ey' hne' hok' F2' I2' J2' hf' => ?_)
    · skip
      exact pr_goL h2 (rfl) ⟨_, _, _, _, _, _, _, _, _, _, _, _, _, _, _, _, _, _, _, hC, hR, hV, hq⟩
    · skip
      exact absurd ⟨⟨j', hj', ex'⟩, ⟨j2', hj2', ey'⟩, fun e => hne' (iv_j hC hj' hj2' ex' (e.trans ey'))⟩ g
    · skip
      exact absurd ⟨⟨j', hj', ex'⟩, ⟨j2', hj2', ey'⟩, fun e => hne' (iv_j hC hj' hj2' ex' (e.trans ey'))⟩ g
  · skip
    obtain ⟨hC, hR⟩ := iv_frP hj hf hC hR
    refine h1 _ _ _ _ _ _ hR.1.1.1 ?_
    refine sp_X7_changed hR.1.1 hR.1.2.1 (fun g' => ?_) (fun j' j2' hj' hj2' ex' ey' hne' hno' F2' I2' J2' hf' => ?_) (fun j' j2' hj' hj2' ex' ey' hne' hok' F2' I2' J2' hf' => ?_)
    · skip
      exact absurd ⟨⟨j, hj, ex⟩, ⟨j2, hj2, ey⟩, fun e => hne (iv_j hC hj hj2 ex (e.trans ey))⟩ g'
    · skip
      obtain rfl := iv_j hC hj hj' ex ex'
      obtain rfl := iv_j hC hj2 hj2' ey ey'
      obtain ⟨hC, hR⟩ := iv_frQ hf' hC hR
      exact pr_goL h2 (rfl) ⟨_, _, _, _, _, _, _, _, _, _, _, _, _, _, _, _, _, _, _, hC, hR, hV, hq⟩
    · skip
      obtain rfl := iv_j hC hj hj' ex ex'
      obtain rfl := iv_j hC hj2 hj2' ey ey'
      exact absurd hok' hno
  · skip
    obtain ⟨hC, hR⟩ := iv_frP hj hf hC hR
    refine h1 _ _ _ _ _ _ hR.1.1.1 ?_
    refine sp_X7_changed hR.1.1 hR.1.2.1 (fun g' => ?_) (fun j' j2' hj' hj2' ex' ey' hne' hno' F2' I2' J2' hf' => ?_) (fun j' j2' hj' hj2' ex' ey' hne' hok' F2' I2' J2' hf' => ?_)
    · skip
      exact absurd ⟨⟨j, hj, ex⟩, ⟨j2, hj2, ey⟩, fun e => hne (iv_j hC hj hj2 ex (e.trans ey))⟩ g'
    · skip
      obtain rfl := iv_j hC hj hj' ex ex'
      obtain rfl := iv_j hC hj2 hj2' ey ey'
      exact absurd hok hno'
    · skip
      obtain rfl := iv_j hC hj hj' ex ex'
      obtain rfl := iv_j hC hj2 hj2' ey ey'
      obtain ⟨hC, hR⟩ := iv_frQ hf' hC hR
      exact pr_goL h2 (rfl) ⟨_, _, _, _, _, _, _, _, _, _, _, _, _, _, _, _, _, _, _, hC, hR, hV, hq⟩
set_option maxHeartbeats 4000000 in
set_option maxRecDepth 100000 in
theorem pr_change {l : Launch} {K : mhX} {S : List mhS} {F : mhF} {I : mhI} {J : mhJ} {P : mhP} {Φ : mhQ} {Ψ : Int32 → mhQ} {a1 a2 a3 : Int32} (h : mhIv S F I P) (h1 : ∀ (x : Int32) (S : List mhS) (F : mhF) (I : mhI) (J : mhJ) (P : mhP), mhKX7 S → mhOk l K mX7_change [.ref 21, .int a1, .int a2, .int a3] S F I J P (Ψ x) → Φ (some (.int x)) S F I J P) (h2 : ∀ (x : Int32) (S : List mhS) (F : mhF) (I : mhI) (J : mhJ) (P : mhP), mhIv S F I P → Ψ x (some (.int x)) S F I J P) : mhOk l K mX6_change [.ref 0, .int a1, .int a2, .int a3] S F I J P Φ := by
  obtain ⟨nh, wd, hg, aH, kd, sm, so, ln, cl, nr, aR, rp, np, pf, nw, aW, wk, tr, fa, hC, hR, hV, hq⟩ := h
  refine sp_X6_change hC.1.1 hC.2.1.1 hC.2.1.2.1 hC.2.1.2.2.2 (fun g => ?_) (fun g ge => ?_) (fun j j2 hj hj2 ex ey hne hk hno F2 I2 hf => ?_) (fun j j2 q hj hj2 ex ey hne en hq9 hk hok F2 I2 hf => ?_)
  · skip
    refine h1 _ _ _ _ _ _ hR.1.1.1 ?_
    refine sp_X7_change hR.1.1 hR.1.2.1 (fun g' => ?_) (fun g' ge' => ?_) (fun j' j2' hj' hj2' ex' ey' hne' hk' hno' F2' I2' J2' hf' => ?_) (fun j' j2' q' hj' hj2' ex' ey' hne' en' hq9' hk' hok' F2' I2' J2' hf' => ?_)
    · skip
      exact pr_go h2 (rfl) ⟨_, _, _, _, _, _, _, _, _, _, _, _, _, _, _, _, _, _, _, hC, hR, hV, hq⟩
    · skip
      exact absurd g' g
    · skip
      exact absurd ⟨⟨j', hj', ex'⟩, ⟨j2', hj2', ey'⟩, hk'⟩ g
    · skip
      exact absurd ⟨⟨j', hj', ex'⟩, ⟨j2', hj2', ey'⟩, hk'⟩ g
  · skip
    refine h1 _ _ _ _ _ _ hR.1.1.1 ?_
    refine sp_X7_change hR.1.1 hR.1.2.1 (fun g' => ?_) (fun g' ge' => ?_) (fun j' j2' hj' hj2' ex' ey' hne' hk' hno' F2' I2' J2' hf' => ?_) (fun j' j2' q' hj' hj2' ex' ey' hne' en' hq9' hk' hok' F2' I2' J2' hf' => ?_)
    · skip
      exact absurd g g'
    · skip
      exact pr_go h2 (rfl) ⟨_, _, _, _, _, _, _, _, _, _, _, _, _, _, _, _, _, _, _, hC, hR, hV, hq⟩
    · skip
      exact absurd ge (fun e => hne' (iv_j hC hj' hj2' ex' (e.trans ey')))
    · skip
      exact absurd ge (fun e => hne' (iv_j hC hj' hj2' ex' (e.trans ey')))
  · skip
    obtain ⟨hC, hR⟩ := iv_frP hj hf hC hR
    refine h1 _ _ _ _ _ _ hR.1.1.1 ?_
    refine sp_X7_change hR.1.1 hR.1.2.1 (fun g' => ?_) (fun g' ge' => ?_) (fun j' j2' hj' hj2' ex' ey' hne' hk' hno' F2' I2' J2' hf' => ?_) (fun j' j2' q' hj' hj2' ex' ey' hne' en' hq9' hk' hok' F2' I2' J2' hf' => ?_)
    · skip
      exact absurd ⟨⟨j, hj, ex⟩, ⟨j2, hj2, ey⟩, hk⟩ g'
    · skip
      exact absurd ge' (fun e => hne (iv_j hC hj hj2 ex (e.trans ey)))
    · skip
      obtain rfl := iv_j hC hj hj' ex ex'
      obtain rfl := iv_j hC hj2 hj2' ey ey'
      obtain ⟨hC, hR⟩ := iv_frQ hf' hC hR
      exact pr_go h2 (rfl) ⟨_, _, _, _, _, _, _, _, _, _, _, _, _, _, _, _, _, _, _, hC, hR, hV, hq⟩
    · skip
      obtain rfl := iv_j hC hj hj' ex ex'
      obtain rfl := iv_j hC hj2 hj2' ey ey'
      exact absurd hok' hno
  · skip
    obtain ⟨hC, hR⟩ := iv_frP hj hf hC hR
    refine h1 _ _ _ _ _ _ hR.1.1.1 ?_
    refine sp_X7_change hR.1.1 hR.1.2.1 (fun g' => ?_) (fun g' ge' => ?_) (fun j' j2' hj' hj2' ex' ey' hne' hk' hno' F2' I2' J2' hf' => ?_) (fun j' j2' q' hj' hj2' ex' ey' hne' en' hq9' hk' hok' F2' I2' J2' hf' => ?_)
    · skip
      exact absurd ⟨⟨j, hj, ex⟩, ⟨j2, hj2, ey⟩, hk⟩ g'
    · skip
      exact absurd ge' (fun e => hne (iv_j hC hj hj2 ex (e.trans ey)))
    · skip
      obtain rfl := iv_j hC hj hj' ex ex'
      obtain rfl := iv_j hC hj2 hj2' ey ey'
      exact absurd hok hno'
    · skip
      obtain rfl := iv_j hC hj hj' ex ex'
      obtain rfl := iv_j hC hj2 hj2' ey ey'
      obtain rfl := iv_m (by omega) (by omega) en en'
      obtain ⟨hC, hR⟩ := iv_frQ hf' hC hR
      exact pr_go h2 (rfl) ⟨_, _, _, _, _, _, _, _, _, _, _, _, _, _, _, _, _, _, _, hC, hR, hV, hq⟩
set_option maxHeartbeats 4000000 in
set_option maxRecDepth 100000 in
theorem pr_ofWalker {l : Launch} {K : mhX} {S : List mhS} {F : mhF} {I : mhI} {J : mhJ} {P : mhP} {Φ : mhQ} {Ψ : Int32 → mhQ} {a1 a2 : Int32} (h : mhIv S F I P) (h1 : ∀ (x : Int32) (S : List mhS) (F : mhF) (I : mhI) (J : mhJ) (P : mhP), mhKX7 S → mhOk l K mX7_ofWalker [.ref 21, .int a1, .int a2] S F I J P (Ψ x) → Φ (some (.int x)) S F I J P) (h2 : ∀ (x : Int32) (S : List mhS) (F : mhF) (I : mhI) (J : mhJ) (P : mhP), mhIv S F I P → Ψ x (some (.int x)) S F I J P) : mhOk l K mX6_ofWalker [.ref 0, .int a1, .int a2] S F I J P Φ := by
  obtain ⟨nh, wd, hg, aH, kd, sm, so, ln, cl, nr, aR, rp, np, pf, nw, aW, wk, tr, fa, hC, hR, hV, hq⟩ := h
  refine sp_X6_ofWalker hC.2.1.1.1 hC.2.2.2.2.2.1.1 (fun g => ?_) (fun v hv ex => ?_)
  · skip
    refine h1 _ _ _ _ _ _ hR.1.1.1 ?_
    refine sp_X7_ofWalker hR.1.1.1 hR.2.2.2.2.1 (fun g' => ?_) (fun v' hv' ex' => ?_)
    · skip
      exact pr_go h2 (rfl) ⟨_, _, _, _, _, _, _, _, _, _, _, _, _, _, _, _, _, _, _, hC, hR, hV, hq⟩
    · skip
      exact absurd ⟨v', hv', ex'⟩ g
  · skip
    refine h1 _ _ _ _ _ _ hR.1.1.1 ?_
    refine sp_X7_ofWalker hR.1.1.1 hR.2.2.2.2.1 (fun g' => ?_) (fun v' hv' ex' => ?_)
    · skip
      exact absurd ⟨v, hv, ex⟩ g'
    · skip
      obtain rfl := iv_w hC hv hv' ex ex'
      exact pr_go h2 (rfl) ⟨_, _, _, _, _, _, _, _, _, _, _, _, _, _, _, _, _, _, _, hC, hR, hV, hq⟩
set_option maxHeartbeats 4000000 in
set_option maxRecDepth 100000 in
theorem pr_as {l : Launch} {K : mhX} {S : List mhS} {F : mhF} {I : mhI} {J : mhJ} {P : mhP} {Φ : mhQ} {Ψ : Int32 → mhQ} {a1 a2 : Int32} (h : mhIv S F I P) (h1 : ∀ (x : Int32) (S : List mhS) (F : mhF) (I : mhI) (J : mhJ) (P : mhP), mhKX7 S → mhOk l K mX7_as [.ref 21, .int a1, .int a2] S F I J P (Ψ x) → Φ (some (.int x)) S F I J P) (h2 : ∀ (x : Int32) (S : List mhS) (F : mhF) (I : mhI) (J : mhJ) (P : mhP), mhIv S F I P → Ψ x (some (.int x)) S F I J P) : mhOk l K mX6_as [.ref 0, .int a1, .int a2] S F I J P Φ := by
  obtain ⟨nh, wd, hg, aH, kd, sm, so, ln, cl, nr, aR, rp, np, pf, nw, aW, wk, tr, fa, hC, hR, hV, hq⟩ := h
  refine sp_X6_as hC.2.1.1.1 hC.2.2.2.2.2.1.1 (fun g => ?_) (fun g gb => ?_) (fun v hv ex ga gl => ?_) (fun v hv ex ga gl => ?_)
  · skip
    obtain ⟨hC, hR⟩ := iv_f12 0 hC hR
    refine h1 _ _ _ _ _ _ hR.1.1.1 ?_
    refine sp_X7_as hR.1.1.1 hR.2.2.2.2.1 (fun g' => ?_) (fun g' gb' => ?_) (fun v' hv' ex' ga' gl' => ?_) (fun v' hv' ex' ga' gl' => ?_)
    · skip
      obtain ⟨hC, hR⟩ := iv_f0 0 hC hR
      exact pr_go h2 (rfl) ⟨_, _, _, _, _, _, _, _, _, _, _, _, _, _, _, _, _, _, _, hC, hR, hV, hq⟩
    · skip
      exact absurd g' g
    · skip
      exact absurd ⟨v', hv', ex'⟩ g
    · skip
      exact absurd ⟨v', hv', ex'⟩ g
  · skip
    obtain ⟨hC, hR⟩ := iv_f12 0 hC hR
    refine h1 _ _ _ _ _ _ hR.1.1.1 ?_
    refine sp_X7_as hR.1.1.1 hR.2.2.2.2.1 (fun g' => ?_) (fun g' gb' => ?_) (fun v' hv' ex' ga' gl' => ?_) (fun v' hv' ex' ga' gl' => ?_)
    · skip
      exact absurd g g'
    · skip
      obtain ⟨hC, hR⟩ := iv_f0 0 hC hR
      exact pr_go h2 (rfl) ⟨_, _, _, _, _, _, _, _, _, _, _, _, _, _, _, _, _, _, _, hC, hR, hV, hq⟩
    · skip
      exact absurd ga' gb
    · skip
      exact absurd ga' gb
  · skip
    obtain ⟨hC, hR⟩ := iv_f12 0 hC hR
    refine h1 _ _ _ _ _ _ hR.1.1.1 ?_
    refine sp_X7_as hR.1.1.1 hR.2.2.2.2.1 (fun g' => ?_) (fun g' gb' => ?_) (fun v' hv' ex' ga' gl' => ?_) (fun v' hv' ex' ga' gl' => ?_)
    · skip
      exact absurd ⟨v, hv, ex⟩ g'
    · skip
      exact absurd ga gb'
    · skip
      obtain rfl := iv_w hC hv hv' ex ex'
      obtain ⟨hC, hR⟩ := iv_f0 0 hC hR
      exact pr_go h2 (rfl) ⟨_, _, _, _, _, _, _, _, _, _, _, _, _, _, _, _, _, _, _, hC, hR, hV, hq⟩
    · skip
      obtain rfl := iv_w hC hv hv' ex ex'
      exact absurd gl gl'
  · skip
    obtain ⟨hC, hR⟩ := iv_f12 2 hC hR
    refine h1 _ _ _ _ _ _ hR.1.1.1 ?_
    refine sp_X7_as hR.1.1.1 hR.2.2.2.2.1 (fun g' => ?_) (fun g' gb' => ?_) (fun v' hv' ex' ga' gl' => ?_) (fun v' hv' ex' ga' gl' => ?_)
    · skip
      exact absurd ⟨v, hv, ex⟩ g'
    · skip
      exact absurd ga gb'
    · skip
      obtain rfl := iv_w hC hv hv' ex ex'
      exact absurd gl' gl
    · skip
      obtain rfl := iv_w hC hv hv' ex ex'
      obtain ⟨hC, hR⟩ := iv_f0 2 hC hR
      exact pr_go h2 (rfl) ⟨_, _, _, _, _, _, _, _, _, _, _, _, _, _, _, _, _, _, _, hC, hR, hV, hq⟩
set_option maxHeartbeats 4000000 in
set_option maxRecDepth 100000 in
theorem pr_trace {l : Launch} {K : mhX} {S : List mhS} {F : mhF} {I : mhI} {J : mhJ} {P : mhP} {Φ : mhQ} {Ψ : Int32 → mhQ} (h : mhIv S F I P) (h1 : ∀ (x : Int32) (S : List mhS) (F : mhF) (I : mhI) (J : mhJ) (P : mhP), mhKX7 S → mhOk l K mX7_trace [.ref 21] S F I J P (Ψ x) → Φ (some (.int x)) S F I J P) (h2 : ∀ (x : Int32) (S : List mhS) (F : mhF) (I : mhI) (J : mhJ) (P : mhP), mhIv S F I P → Ψ x (some (.int x)) S F I J P) : mhOk l K mX6_trace [.ref 0] S F I J P Φ := by
  obtain ⟨nh, wd, hg, aH, kd, sm, so, ln, cl, nr, aR, rp, np, pf, nw, aW, wk, tr, fa, hC, hR, hV, hq⟩ := h
  refine sp_X6_trace hC.2.1.1.1 ?_
  · skip
    refine h1 _ _ _ _ _ _ hR.1.1.1 ?_
    refine sp_X7_trace hR.1.1.1 ?_
    · skip
      exact pr_go h2 (hR.etr.trans hC.etr.symm) ⟨_, _, _, _, _, _, _, _, _, _, _, _, _, _, _, _, _, _, _, hC, hR, hV, hq⟩
set_option maxHeartbeats 4000000 in
set_option maxRecDepth 100000 in
theorem pr_fault {l : Launch} {K : mhX} {S : List mhS} {F : mhF} {I : mhI} {J : mhJ} {P : mhP} {Φ : mhQ} {Ψ : Int32 → mhQ} (h : mhIv S F I P) (h1 : ∀ (x : Int32) (S : List mhS) (F : mhF) (I : mhI) (J : mhJ) (P : mhP), mhKX7 S → mhOk l K mX7_fault [.ref 21] S F I J P (Ψ x) → Φ (some (.int x)) S F I J P) (h2 : ∀ (x : Int32) (S : List mhS) (F : mhF) (I : mhI) (J : mhJ) (P : mhP), mhIv S F I P → Ψ x (some (.int x)) S F I J P) : mhOk l K mX6_fault [.ref 0] S F I J P Φ := by
  obtain ⟨nh, wd, hg, aH, kd, sm, so, ln, cl, nr, aR, rp, np, pf, nw, aW, wk, tr, fa, hC, hR, hV, hq⟩ := h
  refine sp_X6_fault hC.2.1.1.1 ?_
  · skip
    refine h1 _ _ _ _ _ _ hR.1.1.1 ?_
    refine sp_X7_fault hR.1.1.1 ?_
    · skip
      exact pr_go h2 (hR.efa.trans hC.efa.symm) ⟨_, _, _, _, _, _, _, _, _, _, _, _, _, _, _, _, _, _, _, hC, hR, hV, hq⟩
set_option maxHeartbeats 4000000 in
set_option maxRecDepth 100000 in
theorem pr_many {l : Launch} {K : mhX} {S : List mhS} {F : mhF} {I : mhI} {J : mhJ} {P : mhP} {Φ : mhQ} {Ψ : Int32 → mhQ} {a1 : Int32} (h : mhIv S F I P) (h1 : ∀ (x : Int32) (S : List mhS) (F : mhF) (I : mhI) (J : mhJ) (P : mhP), mhKX7 S → mhOk l K mX7_many [.ref 21, .int a1] S F I J P (Ψ x) → Φ (some (.int x)) S F I J P) (h2 : ∀ (x : Int32) (S : List mhS) (F : mhF) (I : mhI) (J : mhJ) (P : mhP), mhIv S F I P → Ψ x (some (.int x)) S F I J P) : mhOk l K mX6_many [.ref 0, .int a1] S F I J P Φ := by
  obtain ⟨nh, wd, hg, aH, kd, sm, so, ln, cl, nr, aR, rp, np, pf, nw, aW, wk, tr, fa, hC, hR, hV, hq⟩ := h
  refine sp_X6_many hC.2.1.1.1 hC.2.1.1.2.2.1 hC.2.2.2.1.2.1 hC.2.2.2.2.1.2.1 hC.2.2.2.2.2.1.1 ?_
  · skip
    refine h1 _ _ _ _ _ _ hR.1.1.1 ?_
    refine sp_X7_many hR.1.1.1 hR.1.1.2.2.1 hR.2.2.1.2.1 hR.2.2.2.1.2.1 hR.2.2.2.2.1 ?_
    · skip
      exact pr_go h2 (rfl) ⟨_, _, _, _, _, _, _, _, _, _, _, _, _, _, _, _, _, _, _, hC, hR, hV, hq⟩
