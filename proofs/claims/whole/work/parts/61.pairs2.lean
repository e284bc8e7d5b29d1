/-! sheets, traces: class and reference answer alike -/
section MHI4
variable {S S2 : List mhS} {F F2 : mhF} {I I2 : mhI} {P P2 : mhP} {nh nr np nw : Nat} {wd hg aH aR aW : Nat → Nat} {kd sm cl : Nat → Nat → Int32} {so ln : Nat → Int32} {rp : mhRp} {pf : Nat → Int32} {wk : Nat → mhWk} {tr fa : Int32} {fb v : Int32}
theorem mhUI_nk {a b : Nat} {k j x : Int32} (h : ¬ (b = a ∧ j = k)) : mhUI I a k x b j = I b j := if_neg h
theorem mhUI_sl {a : Nat} {k x : Int32} : mhUI I a k x a k = x := if_pos ⟨rfl, rfl⟩
theorem mhCI.sheet {fa2 : Int32} (h : mhCI S F I P nh wd hg aH kd sm so ln cl nr aR rp np pf nw aW wk tr fa) (hF : ∀ b k, ¬ (13 ≤ b ∧ b ≤ 20) → ¬ (b = 0 ∧ k = 12) → F2 b k = F b k) (hI : ∀ b y, ¬ (13 ≤ b ∧ b ≤ 20) → I2 b y = I b y) (hs : mhSh S F2 P) (hf : F2 0 12 = fa2) : mhCI S F2 I2 P nh wd hg aH kd sm (fun j => F2 (13 + 2 * j) 1) (fun j => F2 (13 + 2 * j) 2) (fun j c => I2 (13 + 2 * j + 1) (nI c)) nr aR rp np pf nw aW wk tr fa2 := by
  obtain ⟨g, a, b, c, d, e, x, t, f⟩ := h
  have La := fun j (hj : j < nh) => a.lt hj
  have Lc := fun k (hk : k < nr) => c.lt hk
  have Le := fun v (hv : v < nw) => e.lt hv
  exact ⟨g, a.go exS.rfl' (hF _ _ (by omega) (by omega)) (fun j hj k hk => hF _ _ (by have := La j hj; omega) (by have := La j hj; omega)) (fun j hj t t1 t2 t3 y => hI _ _ (by have := La j hj; omega)) (fun _ _ => rfl), ⟨hs, fun j hj => ⟨rfl, fun _ => ⟨rfl, fun _ _ => rfl⟩⟩⟩, c.go exS.rfl' (hF _ _ (by omega) (by omega)) (fun k hk t ht => hF _ _ (by have := Lc k hk; omega) (by have := Lc k hk; omega)) (fun _ _ => rfl), d.go (hF _ _ (by omega) (by omega)) (fun y => hI _ _ (by omega)), e.go exS.rfl' (hF _ _ (by omega) (by omega)) (fun v hv k => hF _ _ (by have := Le v hv; omega) (by have := Le v hv; omega)) (fun v hv y => hI _ _ (by have := Le v hv; omega)) (fun _ _ => rfl), x, (hF _ _ (by omega) (by omega)).trans t, hf⟩
theorem mhRI.sheet {fa2 : Int32} {so2 ln2 : Nat → Int32} {cl2 : Nat → Nat → Int32} (h : mhRI S F I nh wd hg kd sm so ln cl nr rp np pf nw wk tr fa) (hF : ∀ k, ¬ k = 0 → F2 21 k = F 21 k) (hI : ∀ b y, 25 ≤ b → b ≤ 51 → I2 b y = I b y) (hs : rS I2 so2 ln2 cl2) (hf : F2 21 0 = fa2) : mhRI S F2 I2 nh wd hg kd sm so2 ln2 cl2 nr rp np pf nw wk tr fa2 := by
  obtain ⟨a, b, c, d, e, t, f⟩ := h
  exact ⟨a.go exS.rfl' (hF _ (by omega)) (fun b h1 h2 y => hI _ _ (by omega) (by omega)), hs, c.go (hF _ (by omega)) (fun b h1 h2 y => hI _ _ (by omega) (by omega)), d.go (hF _ (by omega)) (fun y => hI _ _ (by omega) (by omega)), e.go (hF _ (by omega)) (fun b h1 h2 y => hI _ _ (by omega) (by omega)), (hF _ (by omega)).trans t, hf⟩
/-- the trace -/
theorem iv_f11 (v : Int32) (h : mhCI S F I P nh wd hg aH kd sm so ln cl nr aR rp np pf nw aW wk tr fa) (hR : mhRI S F I nh wd hg kd sm so ln cl nr rp np pf nw wk tr fb) : mhCI S (mhUF F 0 11 v) I P nh wd hg aH kd sm so ln cl nr aR rp np pf nw aW wk v fa ∧ mhRI S (mhUF F 0 11 v) I nh wd hg kd sm so ln cl nr rp np pf nw wk tr fb := by
  obtain ⟨g, a, b, c, d, e, x, t, f⟩ := h
  have La := fun j (hj : j < nh) => a.lt hj
  have Lc := fun k (hk : k < nr) => c.lt hk
  have Le := fun v (hv : v < nw) => e.lt hv
  exact ⟨⟨g, a.go exS.rfl' (mhUF_nk (by omega)) (fun j hj k hk => mhUF_nk (by have := La j hj; omega)) (fun j hj t t1 t2 t3 y => rfl) (fun _ _ => rfl), b.go exS.rfl' (fun b k _ _ => mhUF_nk (by omega)) (fun b _ _ y => rfl) (fun _ => rfl), c.go exS.rfl' (mhUF_nk (by omega)) (fun k hk t ht => mhUF_nk (by have := Lc k hk; omega)) (fun _ _ => rfl), d.go (mhUF_nk (by omega)) (fun y => rfl), e.go exS.rfl' (mhUF_nk (by omega)) (fun v hv k => mhUF_nk (by have := Le v hv; omega)) (fun v hv y => rfl) (fun _ _ => rfl), x, mhUF_at, (mhUF_nk (by omega)).trans f⟩, hR.go exS.rfl' (fun k h1 h2 h3 => mhUF_nk (by omega)) (fun b y h1 h2 h3 => rfl) ((mhUF_nk (by omega)).trans hR.efa)⟩
theorem iv_f1 {tq : Int32} (v : Int32) (hC : mhCI S F I P nh wd hg aH kd sm so ln cl nr aR rp np pf nw aW wk tq fa) (h : mhRI S F I nh wd hg kd sm so ln cl nr rp np pf nw wk tr fb) : mhCI S (mhUF F 21 1 v) I P nh wd hg aH kd sm so ln cl nr aR rp np pf nw aW wk tq fa ∧ mhRI S (mhUF F 21 1 v) I nh wd hg kd sm so ln cl nr rp np pf nw wk v fb := by
  refine ⟨hC.go (fun b k h1 h2 h3 h4 h5 => mhUF_nk (by omega)) (fun b y h1 h2 h3 h4 h5 h6 h7 => rfl) ((mhUF_nk (by omega)).trans hC.efa), ?_⟩
  obtain ⟨a, b, c, d, e, t, f⟩ := h
  exact ⟨a.go exS.rfl' (mhUF_nk (by omega)) (fun b h1 h2 y => rfl), b, c.go (mhUF_nk (by omega)) (fun b h1 h2 y => rfl), d.go (mhUF_nk (by omega)) (fun y => rfl), e.go (mhUF_nk (by omega)) (fun b h1 h2 y => rfl), mhUF_at, (mhUF_nk (by omega)).trans f⟩
theorem iv_cl (hq : ∀ j a b, nI a = nI b → cl j a = cl j b) {j a b : Nat} {x : Int32} (ea : x = nI a) (eb : x = nI b) (t : Nat) : cl j (a + t) = cl j (b + t) := hq j _ _ (by rw [← nI_add, ← nI_add, ← ea, eb])
theorem allS_cl (hq : ∀ j a b, nI a = nI b → cl j a = cl j b) {j a b w h n : Nat} {x : Int32} (ea : x = nI a) (eb : x = nI b) : allS w h (cl j) b n = allS w h (cl j) a n := by
  unfold allS; refine propext (forall_congr' fun t => ?_); rw [iv_cl hq eb ea t]
theorem likS_cl (hq : ∀ j a b, nI a = nI b → cl j a = cl j b) {j a b n : Nat} {x : Int32} (ea : x = nI a) (eb : x = nI b) : likS (cl j) b n = likS (cl j) a n := by
  unfold likS; refine propext (exists_congr fun t => exists_congr fun s => ?_); rw [iv_cl hq eb ea t, iv_cl hq eb ea s]
theorem phOk_cl (hq : ∀ j a b, nI a = nI b → cl j a = cl j b) {j a b : Nat} {x n : Int32} (ea : x = nI a) (eb : x = nI b) : phOk (cl j) b n = phOk (cl j) a n := by
  unfold phOk; refine propext (exists_congr fun m => and_congr Iff.rfl (and_congr Iff.rfl (and_congr Iff.rfl (and_congr Iff.rfl (forall_congr' fun t => ?_))))); rw [iv_cl hq eb ea, Nat.add_assoc, Nat.add_assoc, iv_cl hq eb ea]
theorem iv_ce (h : cS S F I P so ln cl) (r : rS I so ln cl) {j : Nat} (hj : j < 4) {o i : Int32} : mhCeF (I 22 (nI j)) (I 23 (nI j)) o i = mhCeF (F (13 + 2 * j) 1) (F (13 + 2 * j) 2) o i ∧ mhCeR (I 22 (nI j)) (I 23 (nI j)) o i (I 24 (60 * nI j + i)) = mhCeR (F (13 + 2 * j) 1) (F (13 + 2 * j) 2) o i (I (13 + 2 * j + 1) i) := by
  have e1 : mhCeF (I 22 (nI j)) (I 23 (nI j)) o i = mhCeF (F (13 + 2 * j) 1) (F (13 + 2 * j) 2) o i := by
    rw [r.eso hj, h.eso hj]
    by_cases hz : so j = -9
    · rw [hz]; unfold mhCeF; rw [if_neg (by simp), if_pos rfl, if_neg (by simp), if_pos rfl]
    · rw [((h.2 j hj).2 hz).1, ((r.2 j hj).2 hz).1]
  refine ⟨e1, ?_⟩
  unfold mhCeR
  rw [e1]
  by_cases hc : mhCeF (F (13 + 2 * j) 1) (F (13 + 2 * j) 2) o i = 0
  · rw [if_pos hc, if_pos hc]
    have hb := (h.1 j hj).2.2
    have hi : ¬ F (13 + 2 * j) 1 = -9 ∧ 0 ≤ i ∧ i ≤ F (13 + 2 * j) 2 - 1 := by unfold mhCeF at hc; grind
    have hi2 : 0 ≤ i ∧ i < 60 := by grind
    obtain ⟨c, hc6, rfl⟩ : ∃ c, c < 60 ∧ i = nI c := ⟨i.toNatClampNeg, by
      have := Int32.le_iff_toInt_le.mp hi2.1; have := Int32.lt_iff_toInt_lt.mp hi2.2
      rw [show (0 : Int32).toInt = 0 from rfl] at *; rw [show (60 : Int32).toInt = 60 from rfl] at *; unfold Int32.toNatClampNeg; omega, by
      have h0 := Int32.le_iff_toInt_le.mp hi2.1; have := Int32.lt_iff_toInt_lt.mp hi2.2
      rw [show (0 : Int32).toInt = 0 from rfl] at h0; rw [show (60 : Int32).toInt = 60 from rfl] at this
      refine Int32.toInt_inj.mp ?_; unfold Int32.toNatClampNeg; rw [nI_toInt (by omega)]; omega⟩
    rw [mh_e60, r.ecl j hj (by rw [r.eso hj, ← h.eso hj]; exact hi.1) c hc6, h.ecl j hj hi.1 c hc6]
  · rw [if_neg hc, if_neg hc]
end MHI4
set_option maxHeartbeats 4000000 in
set_option maxRecDepth 100000 in
theorem pr_cell {l : Launch} {K : mhX} {S : List mhS} {F : mhF} {I : mhI} {J : mhJ} {P : mhP} {Φ : mhQ} {Ψ : Int64 → mhQ} {a1 a2 a3 : Int32} (h : mhIv S F I P) (h1 : ∀ (x : Int64) (S : List mhS) (F : mhF) (I : mhI) (J : mhJ) (P : mhP), mhKX7 S → mhOk l K mX7_cell [.ref 21, .int a1, .int a2, .int a3] S F I J P (Ψ x) → Φ (some (.long x)) S F I J P) (h2 : ∀ (x : Int64) (S : List mhS) (F : mhF) (I : mhI) (J : mhJ) (P : mhP), mhIv S F I P → Ψ x (some (.long x)) S F I J P) : mhOk l K mX6_cell [.ref 0, .int a1, .int a2, .int a3] S F I J P Φ := by
  obtain ⟨nh, wd, hg, aH, kd, sm, so, ln, cl, nr, aR, rp, np, pf, nw, aW, wk, tr, fa, hC, hR, hV, hq⟩ := h
  refine sp_X6_cell hC.2.1.1.1 hC.2.2.1.1 (fun g => ?_) (fun j hj ek gk gs => ?_)
  · refine h1 _ _ _ _ _ _ hR.1.1.1 ?_
    obtain ⟨hC, hR⟩ := iv_f12 0 hC hR
    refine sp_X7_cell hR.1.1.1 hR.2.1.1 (fun _ => ?_) (fun gk' gs' => absurd ⟨gk', gs'⟩ g)
    obtain ⟨hC, hR⟩ := iv_f0 0 hC hR
    exact pr_goL h2 rfl ⟨_, _, _, _, _, _, _, _, _, _, _, _, _, _, _, _, _, _, _, hC, hR, hV, hq⟩
  · subst ek
    obtain ⟨e1, e2⟩ := iv_ce hC.2.2.1 hR.2.1 hj (o := a3) (i := a2)
    refine h1 _ _ _ _ _ _ hR.1.1.1 ?_
    obtain ⟨hC, hR⟩ := iv_f12 (mhCeF (F (13 + 2 * j) 1) (F (13 + 2 * j) 2) a3 a2) hC hR
    refine sp_X7_cell hR.1.1.1 hR.2.1.1 (fun g' => absurd ⟨gk, gs⟩ g') (fun _ _ => ?_)
    rw [e1]
    obtain ⟨hC, hR⟩ := iv_f0 (mhCeF (F (13 + 2 * j) 1) (F (13 + 2 * j) 2) a3 a2) hC hR
    exact pr_goL h2 e2 ⟨_, _, _, _, _, _, _, _, _, _, _, _, _, _, _, _, _, _, _, hC, hR, hV, hq⟩
set_option maxHeartbeats 4000000 in
set_option maxRecDepth 100000 in
theorem pr_keeps {l : Launch} {K : mhX} {S : List mhS} {F : mhF} {I : mhI} {J : mhJ} {P : mhP} {Φ : mhQ} {Ψ : Int32 → mhQ} {a1 a2 a3 a4 a5 a6 a7 a8 : Int32} (h : mhIv S F I P) (h1 : ∀ (x : Int32) (S : List mhS) (F : mhF) (I : mhI) (J : mhJ) (P : mhP), mhKX7 S → mhOk l K mX7_keeps [.ref 21, .int a1, .int a2, .int a3, .int a4, .int a5, .int a6, .int a7, .int a8] S F I J P (Ψ x) → Φ (some (.int x)) S F I J P) (h2 : ∀ (x : Int32) (S : List mhS) (F : mhF) (I : mhI) (J : mhJ) (P : mhP), mhIv S F I P → Ψ x (some (.int x)) S F I J P) : mhOk l K mX6_keeps [.ref 0, .int a1, .int a2, .int a3, .int a4, .int a5, .int a6, .int a7, .int a8] S F I J P Φ := by
  obtain ⟨nh, wd, hg, aH, kd, sm, so, ln, cl, nr, aR, rp, np, pf, nw, aW, wk, tr, fa, hC, hR, hV, hq⟩ := h
  refine sp_X6_keeps hC.2.1.1.1 hC.2.2.1.1 hC.2.1.1 hC.2.1.2.1 hC.2.2.1.ecl (fun g => ?_) (fun g gb => ?_) (fun js hjs ek g ga hag => ?_) (fun js hjs ek g ga hag hno => ?_) (fun j r js ii nn hj hjs hr ex ey ek ga hag ei en hn1 hn8 hS => ?_) (fun j r js ii nn hj hjs hr ex ey ek ga hag ei en hn1 hn8 hS hL => ?_) (fun j r js ii nn c hj hjs hr ex ey ek ga hag ei en hn1 hn8 hS hL ec hc F2 I2 hf => ?_)
  · skip
    obtain ⟨hC, hR⟩ := iv_f12 0 hC hR
    refine h1 _ _ _ _ _ _ hR.1.1.1 ?_
    refine sp_X7_keeps hR.1.1 hR.1.2.1 hR.2.1.1 hR.2.1.ecl (fun g' => ?_) (fun g' gb' => ?_) (fun js' hjs' ek' g' ga' hag' => ?_) (fun js' hjs' ek' g' ga' hag' hno' => ?_) (fun j' r' js' ii' nn' hj' hjs' hr' ex' ey' ek' ga' hag' ei' en' hn1' hn8' hS' => ?_) (fun j' r' js' ii' nn' hj' hjs' hr' ex' ey' ek' ga' hag' ei' en' hn1' hn8' hS' hL' => ?_) (fun j' r' js' ii' nn' c' hj' hjs' hr' ex' ey' ek' ga' hag' ei' en' hn1' hn8' hS' hL' ec' hc' F2' I2' hF' hf' => ?_)
    · skip
      obtain ⟨hC, hR⟩ := iv_f0 0 hC hR
      exact pr_go h2 (rfl) ⟨_, _, _, _, _, _, _, _, _, _, _, _, _, _, _, _, _, _, _, hC, hR, hV, hq⟩
    · skip
      exact absurd g' g
    · skip
      rw [hR.2.1.ag hjs'] at hag' ⊢
      exact absurd g' g
    · skip
      rw [hR.2.1.ag hjs'] at hag'
      exact absurd g' g
    · skip
      rw [hR.2.1.ag hjs'] at hag'
      exact absurd ⟨iv_sc hjs' ek', ⟨j', hj', ex', r', hr', ey'⟩⟩ g
    · skip
      rw [hR.2.1.ag hjs'] at hag'
      exact absurd ⟨iv_sc hjs' ek', ⟨j', hj', ex', r', hr', ey'⟩⟩ g
    · skip
      rw [hR.2.1.ag hjs'] at hag'
      exact absurd ⟨iv_sc hjs' ek', ⟨j', hj', ex', r', hr', ey'⟩⟩ g
  · skip
    obtain ⟨hC, hR⟩ := iv_f12 0 hC hR
    refine h1 _ _ _ _ _ _ hR.1.1.1 ?_
    refine sp_X7_keeps hR.1.1 hR.1.2.1 hR.2.1.1 hR.2.1.ecl (fun g' => ?_) (fun g' gb' => ?_) (fun js' hjs' ek' g' ga' hag' => ?_) (fun js' hjs' ek' g' ga' hag' hno' => ?_) (fun j' r' js' ii' nn' hj' hjs' hr' ex' ey' ek' ga' hag' ei' en' hn1' hn8' hS' => ?_) (fun j' r' js' ii' nn' hj' hjs' hr' ex' ey' ek' ga' hag' ei' en' hn1' hn8' hS' hL' => ?_) (fun j' r' js' ii' nn' c' hj' hjs' hr' ex' ey' ek' ga' hag' ei' en' hn1' hn8' hS' hL' ec' hc' F2' I2' hF' hf' => ?_)
    · skip
      exact absurd g g'
    · skip
      obtain ⟨hC, hR⟩ := iv_f0 0 hC hR
      exact pr_go h2 (rfl) ⟨_, _, _, _, _, _, _, _, _, _, _, _, _, _, _, _, _, _, _, hC, hR, hV, hq⟩
    · skip
      rw [hR.2.1.ag hjs'] at hag' ⊢
      exact absurd ga' gb
    · skip
      rw [hR.2.1.ag hjs'] at hag'
      exact absurd ga' gb
    · skip
      rw [hR.2.1.ag hjs'] at hag'
      exact absurd ga' gb
    · skip
      rw [hR.2.1.ag hjs'] at hag'
      exact absurd ga' gb
    · skip
      rw [hR.2.1.ag hjs'] at hag'
      exact absurd ga' gb
  · skip
    rw [hC.2.2.1.ag hjs] at hag ⊢
    obtain ⟨hC, hR⟩ := iv_f12 (mhAg (so js) (ln js) a5 a6 a7) hC hR
    refine h1 _ _ _ _ _ _ hR.1.1.1 ?_
    refine sp_X7_keeps hR.1.1 hR.1.2.1 hR.2.1.1 hR.2.1.ecl (fun g' => ?_) (fun g' gb' => ?_) (fun js' hjs' ek' g' ga' hag' => ?_) (fun js' hjs' ek' g' ga' hag' hno' => ?_) (fun j' r' js' ii' nn' hj' hjs' hr' ex' ey' ek' ga' hag' ei' en' hn1' hn8' hS' => ?_) (fun j' r' js' ii' nn' hj' hjs' hr' ex' ey' ek' ga' hag' ei' en' hn1' hn8' hS' hL' => ?_) (fun j' r' js' ii' nn' c' hj' hjs' hr' ex' ey' ek' ga' hag' ei' en' hn1' hn8' hS' hL' ec' hc' F2' I2' hF' hf' => ?_)
    · skip
      exact absurd g g'
    · skip
      exact absurd ga gb'
    · skip
      obtain rfl := iv_s hjs hjs' ek ek'
      rw [hR.2.1.ag hjs'] at hag' ⊢
      obtain ⟨hC, hR⟩ := iv_f0 (mhAg (so js) (ln js) a5 a6 a7) hC hR
      exact pr_go h2 (rfl) ⟨_, _, _, _, _, _, _, _, _, _, _, _, _, _, _, _, _, _, _, hC, hR, hV, hq⟩
    · skip
      obtain rfl := iv_s hjs hjs' ek ek'
      rw [hR.2.1.ag hjs'] at hag'
      exact absurd hag' hag
    · skip
      obtain rfl := iv_s hjs hjs' ek ek'
      rw [hR.2.1.ag hjs'] at hag'
      exact absurd hag' hag
    · skip
      obtain rfl := iv_s hjs hjs' ek ek'
      rw [hR.2.1.ag hjs'] at hag'
      exact absurd hag' hag
    · skip
      obtain rfl := iv_s hjs hjs' ek ek'
      rw [hR.2.1.ag hjs'] at hag'
      exact absurd hag' hag
  · skip
    rw [hC.2.2.1.ag hjs] at hag
    obtain ⟨hC, hR⟩ := iv_f12 0 hC hR
    refine h1 _ _ _ _ _ _ hR.1.1.1 ?_
    refine sp_X7_keeps hR.1.1 hR.1.2.1 hR.2.1.1 hR.2.1.ecl (fun g' => ?_) (fun g' gb' => ?_) (fun js' hjs' ek' g' ga' hag' => ?_) (fun js' hjs' ek' g' ga' hag' hno' => ?_) (fun j' r' js' ii' nn' hj' hjs' hr' ex' ey' ek' ga' hag' ei' en' hn1' hn8' hS' => ?_) (fun j' r' js' ii' nn' hj' hjs' hr' ex' ey' ek' ga' hag' ei' en' hn1' hn8' hS' hL' => ?_) (fun j' r' js' ii' nn' c' hj' hjs' hr' ex' ey' ek' ga' hag' ei' en' hn1' hn8' hS' hL' ec' hc' F2' I2' hF' hf' => ?_)
    · skip
      exact absurd g g'
    · skip
      exact absurd ga gb'
    · skip
      obtain rfl := iv_s hjs hjs' ek ek'
      rw [hR.2.1.ag hjs'] at hag' ⊢
      exact absurd hag hag'
    · skip
      obtain rfl := iv_s hjs hjs' ek ek'
      rw [hR.2.1.ag hjs'] at hag'
      obtain ⟨hC, hR⟩ := iv_f0 0 hC hR
      exact pr_go h2 (rfl) ⟨_, _, _, _, _, _, _, _, _, _, _, _, _, _, _, _, _, _, _, hC, hR, hV, hq⟩
    · skip
      obtain rfl := iv_s hjs hjs' ek ek'
      rw [hR.2.1.ag hjs'] at hag'
      exact absurd (iv_18 hn1' hn8' en') hno
    · skip
      obtain rfl := iv_s hjs hjs' ek ek'
      rw [hR.2.1.ag hjs'] at hag'
      exact absurd (iv_18 hn1' hn8' en') hno
    · skip
      obtain rfl := iv_s hjs hjs' ek ek'
      rw [hR.2.1.ag hjs'] at hag'
      exact absurd (iv_18 hn1' hn8' en') hno
  · skip
    rw [hC.2.2.1.ag hjs] at hag
    obtain ⟨hC, hR⟩ := iv_f12 0 hC hR
    refine h1 _ _ _ _ _ _ hR.1.1.1 ?_
    refine sp_X7_keeps hR.1.1 hR.1.2.1 hR.2.1.1 hR.2.1.ecl (fun g' => ?_) (fun g' gb' => ?_) (fun js' hjs' ek' g' ga' hag' => ?_) (fun js' hjs' ek' g' ga' hag' hno' => ?_) (fun j' r' js' ii' nn' hj' hjs' hr' ex' ey' ek' ga' hag' ei' en' hn1' hn8' hS' => ?_) (fun j' r' js' ii' nn' hj' hjs' hr' ex' ey' ek' ga' hag' ei' en' hn1' hn8' hS' hL' => ?_) (fun j' r' js' ii' nn' c' hj' hjs' hr' ex' ey' ek' ga' hag' ei' en' hn1' hn8' hS' hL' ec' hc' F2' I2' hF' hf' => ?_)
    · skip
      exact absurd ⟨iv_sc hjs ek, ⟨j, hj, ex, r, hr, ey⟩⟩ g'
    · skip
      exact absurd ga gb'
    · skip
      obtain rfl := iv_s hjs hjs' ek ek'
      rw [hR.2.1.ag hjs'] at hag' ⊢
      exact absurd hag hag'
    · skip
      obtain rfl := iv_s hjs hjs' ek ek'
      rw [hR.2.1.ag hjs'] at hag'
      exact absurd (iv_18 hn1 hn8 en) hno'
    · skip
      obtain rfl := iv_j hC hj hj' ex ex'
      obtain rfl := iv_r hC hj hr hr' ey ey'
      obtain rfl := iv_s hjs hjs' ek ek'
      obtain rfl := iv_m (by omega) (by omega) en en'
      rw [allS_cl hq ei ei'] at hS'
      rw [hR.2.1.ag hjs'] at hag'
      obtain ⟨hC, hR⟩ := iv_f0 0 hC hR
      exact pr_go h2 (rfl) ⟨_, _, _, _, _, _, _, _, _, _, _, _, _, _, _, _, _, _, _, hC, hR, hV, hq⟩
    · skip
      obtain rfl := iv_j hC hj hj' ex ex'
      obtain rfl := iv_r hC hj hr hr' ey ey'
      obtain rfl := iv_s hjs hjs' ek ek'
      obtain rfl := iv_m (by omega) (by omega) en en'
      rw [allS_cl hq ei ei'] at hS'
      rw [likS_cl hq ei ei'] at hL'
      rw [hR.2.1.ag hjs'] at hag'
      exact absurd hS' hS
    · skip
      obtain rfl := iv_j hC hj hj' ex ex'
      obtain rfl := iv_r hC hj hr hr' ey ey'
      obtain rfl := iv_s hjs hjs' ek ek'
      obtain rfl := iv_m (by omega) (by omega) en en'
      rw [allS_cl hq ei ei'] at hS'
      rw [likS_cl hq ei ei'] at hL'
      rw [hR.2.1.ag hjs'] at hag'
      exact absurd hS' hS
  · skip
    rw [hC.2.2.1.ag hjs] at hag
    obtain ⟨hC, hR⟩ := iv_f12 0 hC hR
    refine h1 _ _ _ _ _ _ hR.1.1.1 ?_
    refine sp_X7_keeps hR.1.1 hR.1.2.1 hR.2.1.1 hR.2.1.ecl (fun g' => ?_) (fun g' gb' => ?_) (fun js' hjs' ek' g' ga' hag' => ?_) (fun js' hjs' ek' g' ga' hag' hno' => ?_) (fun j' r' js' ii' nn' hj' hjs' hr' ex' ey' ek' ga' hag' ei' en' hn1' hn8' hS' => ?_) (fun j' r' js' ii' nn' hj' hjs' hr' ex' ey' ek' ga' hag' ei' en' hn1' hn8' hS' hL' => ?_) (fun j' r' js' ii' nn' c' hj' hjs' hr' ex' ey' ek' ga' hag' ei' en' hn1' hn8' hS' hL' ec' hc' F2' I2' hF' hf' => ?_)
    · skip
      exact absurd ⟨iv_sc hjs ek, ⟨j, hj, ex, r, hr, ey⟩⟩ g'
    · skip
      exact absurd ga gb'
    · skip
      obtain rfl := iv_s hjs hjs' ek ek'
      rw [hR.2.1.ag hjs'] at hag' ⊢
      exact absurd hag hag'
    · skip
      obtain rfl := iv_s hjs hjs' ek ek'
      rw [hR.2.1.ag hjs'] at hag'
      exact absurd (iv_18 hn1 hn8 en) hno'
    · skip
      obtain rfl := iv_j hC hj hj' ex ex'
      obtain rfl := iv_r hC hj hr hr' ey ey'
      obtain rfl := iv_s hjs hjs' ek ek'
      obtain rfl := iv_m (by omega) (by omega) en en'
      rw [allS_cl hq ei ei'] at hS'
      rw [hR.2.1.ag hjs'] at hag'
      exact absurd hS hS'
    · skip
      obtain rfl := iv_j hC hj hj' ex ex'
      obtain rfl := iv_r hC hj hr hr' ey ey'
      obtain rfl := iv_s hjs hjs' ek ek'
      obtain rfl := iv_m (by omega) (by omega) en en'
      rw [allS_cl hq ei ei'] at hS'
      rw [likS_cl hq ei ei'] at hL'
      rw [hR.2.1.ag hjs'] at hag'
      obtain ⟨hC, hR⟩ := iv_f0 0 hC hR
      exact pr_go h2 (rfl) ⟨_, _, _, _, _, _, _, _, _, _, _, _, _, _, _, _, _, _, _, hC, hR, hV, hq⟩
    · skip
      obtain rfl := iv_j hC hj hj' ex ex'
      obtain rfl := iv_r hC hj hr hr' ey ey'
      obtain rfl := iv_s hjs hjs' ek ek'
      obtain rfl := iv_m (by omega) (by omega) en en'
      rw [allS_cl hq ei ei'] at hS'
      rw [likS_cl hq ei ei'] at hL'
      rw [hR.2.1.ag hjs'] at hag'
      exact absurd hL hL'
  · skip
    rw [hC.2.2.1.ag hjs] at hag
    obtain ⟨hC, hR⟩ := iv_f12 0 hC hR
    obtain ⟨hC, hR⟩ := iv_frH hj hf hC hR
    refine h1 _ _ _ _ _ _ hR.1.1.1 ?_
    refine sp_X7_keeps hR.1.1 hR.1.2.1 hR.2.1.1 hR.2.1.ecl (fun g' => ?_) (fun g' gb' => ?_) (fun js' hjs' ek' g' ga' hag' => ?_) (fun js' hjs' ek' g' ga' hag' hno' => ?_) (fun j' r' js' ii' nn' hj' hjs' hr' ex' ey' ek' ga' hag' ei' en' hn1' hn8' hS' => ?_) (fun j' r' js' ii' nn' hj' hjs' hr' ex' ey' ek' ga' hag' ei' en' hn1' hn8' hS' hL' => ?_) (fun j' r' js' ii' nn' c' hj' hjs' hr' ex' ey' ek' ga' hag' ei' en' hn1' hn8' hS' hL' ec' hc' F2' I2' hF' hf' => ?_)
    · skip
      exact absurd ⟨iv_sc hjs ek, ⟨j, hj, ex, r, hr, ey⟩⟩ g'
    · skip
      exact absurd ga gb'
    · skip
      obtain rfl := iv_s hjs hjs' ek ek'
      rw [hR.2.1.ag hjs'] at hag' ⊢
      exact absurd hag hag'
    · skip
      obtain rfl := iv_s hjs hjs' ek ek'
      rw [hR.2.1.ag hjs'] at hag'
      exact absurd (iv_18 hn1 hn8 en) hno'
    · skip
      obtain rfl := iv_j hC hj hj' ex ex'
      obtain rfl := iv_r hC hj hr hr' ey ey'
      obtain rfl := iv_s hjs hjs' ek ek'
      obtain rfl := iv_m (by omega) (by omega) en en'
      rw [allS_cl hq ei ei'] at hS'
      rw [hR.2.1.ag hjs'] at hag'
      exact absurd hS hS'
    · skip
      obtain rfl := iv_j hC hj hj' ex ex'
      obtain rfl := iv_r hC hj hr hr' ey ey'
      obtain rfl := iv_s hjs hjs' ek ek'
      obtain rfl := iv_m (by omega) (by omega) en en'
      rw [allS_cl hq ei ei'] at hS'
      rw [likS_cl hq ei ei'] at hL'
      rw [hR.2.1.ag hjs'] at hag'
      exact absurd hL' hL
    · skip
      obtain rfl := iv_j hC hj hj' ex ex'
      obtain rfl := iv_r hC hj hr hr' ey ey'
      obtain rfl := iv_s hjs hjs' ek ek'
      obtain rfl := iv_m (by omega) (by omega) en en'
      obtain rfl := iv_m (by omega) (by omega) ec ec'
      rw [allS_cl hq ei ei'] at hS'
      rw [likS_cl hq ei ei'] at hL'
      rw [hR.2.1.ag hjs'] at hag'
      obtain ⟨hC, hR⟩ := iv_frK hF' hf' hC hR
      exact pr_go h2 (by rw [show (fun x => (cl js (ii' + x)).toNatClampNeg) = fun x => (cl js (ii + x)).toNatClampNeg from funext fun x => by rw [iv_cl hq ei' ei]]) ⟨_, _, _, _, _, _, _, _, _, _, _, _, _, _, _, _, _, _, _, hC, hR, hV, hq⟩
set_option maxHeartbeats 4000000 in
set_option maxRecDepth 100000 in
theorem pr_tell {l : Launch} {K : mhX} {S : List mhS} {F : mhF} {I : mhI} {J : mhJ} {P : mhP} {Φ : mhQ} {Ψ : Int32 → mhQ} {a1 : Int32} (h : mhIv S F I P) (h1 : ∀ (x : Int32) (S : List mhS) (F : mhF) (I : mhI) (J : mhJ) (P : mhP), mhKX7 S → mhOk l K mX7_tell [.ref 21, .int a1] S F I J P (Ψ x) → Φ (some (.int x)) S F I J P) (h2 : ∀ (x : Int32) (S : List mhS) (F : mhF) (I : mhI) (J : mhJ) (P : mhP), mhIv S F I P → Ψ x (some (.int x)) S F I J P) : mhOk l K mX6_tell [.ref 0, .int a1] S F I J P Φ := by
  obtain ⟨nh, wd, hg, aH, kd, sm, so, ln, cl, nr, aR, rp, np, pf, nw, aW, wk, tr, fa, hC, hR, hV, hq⟩ := h
  refine sp_X6_tell hC.2.1.1.1 hC.2.2.2.2.2.1.1 (fun v hv => (hV.2.2 v hv).1) (fun g => ?_) (fun v hv ex => ?_)
  · skip
    refine h1 _ _ _ _ _ _ hR.1.1.1 ?_
    refine sp_X7_tell hR.1.1.1 hR.2.2.2.2.1 (fun v hv => (hV.2.2 v hv).1) (fun g' => ?_) (fun v' hv' ex' => ?_)
    · skip
      exact pr_go h2 (rfl) ⟨_, _, _, _, _, _, _, _, _, _, _, _, _, _, _, _, _, _, _, hC, hR, hV, hq⟩
    · skip
      rw [hR.etr]
      exact absurd ⟨v', hv', ex'⟩ g
  · skip
    rw [hC.etr]
    obtain ⟨hC, hR⟩ := iv_f11 (tlT (wk v).1 tr) hC hR
    refine h1 _ _ _ _ _ _ hR.1.1.1 ?_
    refine sp_X7_tell hR.1.1.1 hR.2.2.2.2.1 (fun v hv => (hV.2.2 v hv).1) (fun g' => ?_) (fun v' hv' ex' => ?_)
    · skip
      exact absurd ⟨v, hv, ex⟩ g'
    · skip
      obtain rfl := iv_w hC hv hv' ex ex'
      rw [hR.etr]
      obtain ⟨hC, hR⟩ := iv_f1 (tlT (wk v).1 tr) hC hR
      exact pr_go h2 (rfl) ⟨_, _, _, _, _, _, _, _, _, _, _, _, _, _, _, _, _, _, _, hC, hR, hV, hq⟩
set_option maxHeartbeats 4000000 in
set_option maxRecDepth 100000 in
theorem pr_greet {l : Launch} {K : mhX} {S : List mhS} {F : mhF} {I : mhI} {J : mhJ} {P : mhP} {Φ : mhQ} {Ψ : Int32 → mhQ} {a1 : Int32} (h : mhIv S F I P) (h1 : ∀ (x : Int32) (S : List mhS) (F : mhF) (I : mhI) (J : mhJ) (P : mhP), mhKX7 S → mhOk l K mX7_greet [.ref 21, .int a1] S F I J P (Ψ x) → Φ (some (.int x)) S F I J P) (h2 : ∀ (x : Int32) (S : List mhS) (F : mhF) (I : mhI) (J : mhJ) (P : mhP), mhIv S F I P → Ψ x (some (.int x)) S F I J P) : mhOk l K mX6_greet [.ref 0, .int a1] S F I J P Φ := by
  obtain ⟨nh, wd, hg, aH, kd, sm, so, ln, cl, nr, aR, rp, np, pf, nw, aW, wk, tr, fa, hC, hR, hV, hq⟩ := h
  refine sp_X6_greet hC.2.1.1.1 hC.2.2.2.2.2.1.1 (fun v hv => (hV.2.2 v hv).1) (fun g => ?_) (fun v hv ex => ?_)
  · skip
    refine h1 _ _ _ _ _ _ hR.1.1.1 ?_
    refine sp_X7_greet hR.1.1.1 hR.2.2.2.2.1 (fun v hv => (hV.2.2 v hv).1) (fun g' => ?_) (fun v' hv' ex' => ?_)
    · skip
      exact pr_go h2 (rfl) ⟨_, _, _, _, _, _, _, _, _, _, _, _, _, _, _, _, _, _, _, hC, hR, hV, hq⟩
    · skip
      rw [hR.etr]
      exact absurd ⟨v', hv', ex'⟩ g
  · skip
    rw [hC.etr]
    obtain ⟨hC, hR⟩ := iv_f11 (grT (wk v).1 tr) hC hR
    refine h1 _ _ _ _ _ _ hR.1.1.1 ?_
    refine sp_X7_greet hR.1.1.1 hR.2.2.2.2.1 (fun v hv => (hV.2.2 v hv).1) (fun g' => ?_) (fun v' hv' ex' => ?_)
    · skip
      exact absurd ⟨v, hv, ex⟩ g'
    · skip
      obtain rfl := iv_w hC hv hv' ex ex'
      rw [hR.etr]
      obtain ⟨hC, hR⟩ := iv_f1 (grT (wk v).1 tr) hC hR
      exact pr_go h2 (rfl) ⟨_, _, _, _, _, _, _, _, _, _, _, _, _, _, _, _, _, _, _, hC, hR, hV, hq⟩
