/-! walker, ticks: what both sides do -/
section MHI9
variable {S S2 : List mhS} {F F2 : mhF} {I I2 : mhI} {P P2 : mhP} {nh nr np nw : Nat} {wd hg aH aR aW : Nat → Nat} {kd sm cl : Nat → Nat → Int32} {so ln : Nat → Int32} {rp : mhRp} {pf : Nat → Int32} {wk : Nat → mhWk} {tr fa : Int32} {fb : Int32}
theorem iv_so3 {x : Int32} (h : mhSo x) : ∃ c, c < 3 ∧ x = nI c := by
  have h1 := Int32.le_iff_toInt_le.mp h.1
  have h2 := Int32.le_iff_toInt_le.mp h.2
  rw [show (0 : Int32).toInt = 0 from rfl] at h1
  rw [show (2 : Int32).toInt = 2 from rfl] at h2
  refine ⟨x.toNatClampNeg, by unfold Int32.toNatClampNeg; omega, Int32.toInt_inj.mp ?_⟩
  unfold Int32.toNatClampNeg; rw [nI_toInt (by omega)]; omega
theorem iv_waC {j kn cn : Nat} {a1 a2 a3 a4 : Int32} (hC : mhCI S F I P nh wd hg aH kd sm so ln cl nr aR rp np pf nw aW wk tr fa) (hR : mhRI S F I nh wd hg kd sm so ln cl nr rp np pf nw wk tr fb) (hlt : nw < 8) (e1 : a1 = nI kn) (e2 : a2 = nI j) (e4 : a4 = nI cn) (hs : exS S S2) (hl : S2.length = S.length + 2) (h5 : mhKX5 S2 S.length) (eF : ∀ c k, c < S.length → ¬ (c = 0 ∧ k = 9) → F2 c k = F c k) (e9 : F2 0 9 = nI (nw + 1)) (f0 : F2 S.length 0 = a1) (f1 : F2 S.length 1 = a2) (f2 : F2 S.length 2 = a3) (f3 : F2 S.length 3 = a4) (f4 : ∀ k, 4 ≤ k → F2 S.length k = 0) (eI : ∀ c y, c < S.length → I2 c y = I c y) (i0 : ∀ y, I2 (S.length + 1) y = 0) : mhCI S2 F2 I2 (mhUP P 4 (nI nw) (some S.length)) nh wd hg aH kd sm so ln cl nr aR rp np pf (nw + 1) (fun v => if v = nw then S.length else aW v) (fun v => if v = nw then (kn, j, a3, cn, 0, 0, 0, fun _ => 0) else wk v) tr fa ∧ mhRI S2 F2 I2 nh wd hg kd sm so ln cl nr rp np pf nw wk tr fb := by
  have h52 : 51 < S.length := exS.lt (shX7_30 hR.1.1.1)
  obtain ⟨g, a, b, c, d, e, x, t, f⟩ := hC
  have La := fun j (hj : j < nh) => a.lt hj
  have Lc := fun k (hk : k < nr) => c.lt hk
  have Le := fun v (hv : v < nw) => e.lt hv
  have pn : ∀ b y, b ≠ 4 → (mhUP P 4 (nI nw) (some S.length)) b y = P b y := fun b y q => if_neg fun z => q z.1
  refine ⟨⟨⟨g.1.ex hs, g.2.ex hs⟩, a.go hs (eF _ _ (by omega) (by omega)) (fun j hj k hk => eF _ _ (by have := La j hj; omega) (by have := La j hj; omega)) (fun j hj t t1 t2 t3 y => eI _ _ (by have := La j hj; omega)) (fun _ _ => pn _ _ (by omega)), b.go hs (fun b k _ _ => eF _ _ (by omega) (by omega)) (fun b _ _ y => eI _ _ (by omega)) (fun _ => pn _ _ (by omega)), c.go hs (eF _ _ (by omega) (by omega)) (fun k hk t ht => eF _ _ (by have := Lc k hk; omega) (by have := Lc k hk; omega)) (fun _ _ => pn _ _ (by omega)), d.go (eF _ _ (by omega) (by omega)) (fun y => eI _ _ (by omega)), ⟨⟨by omega, e9, fun v hv => ?_⟩, fun v v2 hv hv2 hne => ?_⟩, ⟨fun v j hv hj => ?_, fun k v hk hv => ?_, x.2.2⟩, (eF _ _ (by omega) (by omega)).trans t, (eF _ _ (by omega) (by omega)).trans f⟩, hR.go hs (fun k h1 h2 h3 => eF _ _ (by omega) (by omega)) (fun b y h1 h2 h3 => eI _ _ (by omega)) ((eF _ _ (by omega) (by omega)).trans hR.efa)⟩
  · dsimp only
    by_cases q : v = nw
    · subst q
      rw [if_pos rfl, if_pos rfl]
      exact ⟨if_pos ⟨rfl, rfl⟩, h5, by omega, f0.trans e1, f1.trans e2, f2, f3.trans e4, f4 4 (by omega), f4 5 (by omega), f4 6 (by omega), fun k _ => i0 _⟩
    · rw [if_neg q, if_neg q]
      have hv2 : v < nw := by omega
      have lv := Le v hv2
      obtain ⟨h0, h1, h2, h3, h4, h5, h6, h7, h8, h9, h10⟩ := e.1.2.2 v hv2
      have ef : ∀ k, F2 (aW v) k = F (aW v) k := fun k => eF _ _ (by omega) (by omega)
      exact ⟨(if_neg fun z => q (nI_iv z.2 (by omega) (by omega))).trans h0, h1.ex hs, h2, (ef _).trans h3, (ef _).trans h4, (ef _).trans h5, (ef _).trans h6, (ef _).trans h7, (ef _).trans h8, (ef _).trans h9, fun k hk => (eI _ _ (by omega)).trans (h10 k hk)⟩
  · dsimp only
    by_cases q : v = nw
    · by_cases q2 : v2 = nw
      · omega
      · rw [if_pos q, if_neg q2]; have := Le v2 (by omega); omega
    · by_cases q2 : v2 = nw
      · rw [if_neg q, if_pos q2]; have := Le v (by omega); omega
      · rw [if_neg q, if_neg q2]; exact e.2 v v2 (by omega) (by omega) hne
  · dsimp only
    have := La j hj
    by_cases q : v = nw
    · rw [if_pos q]; omega
    · rw [if_neg q]; exact x.1 v j (by omega) hj
  · dsimp only
    have := Lc k hk
    by_cases q : v = nw
    · rw [if_pos q]; omega
    · rw [if_neg q]; exact x.2.1 k v hk (by omega)
theorem iv_waR {j r kn cn nw2 : Nat} {aW2 : Nat → Nat} {wk2 : Nat → mhWk} {a1 a2 a3 a4 : Int32} (hlt : nw < 8) (e1 : a1 = nI kn) (e2 : a2 = nI j) (e3 : a3 = nI r) (h24 : r < 24) (e4 : a4 = nI cn) (eF : ∀ c k, ¬ (c = 21 ∧ k = 28) → F2 c k = F c k) (e28 : F2 21 28 = nI (nw + 1)) (eI : ∀ c y, ¬ (38 ≤ c ∧ c ≤ 45 ∧ y = nI nw) → ¬ (c = 46 ∧ ∃ k, k < 50 ∧ y = nI (50 * nw + k)) → I2 c y = I c y) (i0 : I2 38 (nI nw) = a1) (i1 : I2 39 (nI nw) = a2) (i2 : I2 40 (nI nw) = a3) (i3 : I2 41 (nI nw) = a4) (i4 : I2 42 (nI nw) = 0) (i5 : I2 43 (nI nw) = 0) (i6 : I2 44 (nI nw) = 0) (i7 : I2 45 (nI nw) = -9) (i8 : ∀ k, k < 50 → I2 46 (nI (50 * nw + k)) = 0) (hC : mhCI S F I P nh wd hg aH kd sm so ln cl nr aR rp np pf nw2 aW2 wk2 tr fa) (hR : mhRI S F I nh wd hg kd sm so ln cl nr rp np pf nw wk tr fb) : mhCI S F2 I2 P nh wd hg aH kd sm so ln cl nr aR rp np pf nw2 aW2 wk2 tr fa ∧ mhRI S F2 I2 nh wd hg kd sm so ln cl nr rp np pf (nw + 1) (fun v => if v = nw then (kn, j, a3, cn, 0, 0, 0, fun _ => 0) else wk v) tr fb := by
  refine ⟨hC.go (fun b k q1 q2 q3 q4 q5 => eF _ _ (by omega)) (fun b y q1 q2 q3 q4 q5 q6 q7 => eI _ _ (by omega) (fun z => by omega)) ((eF _ _ (by omega)).trans hC.efa), ?_⟩
  obtain ⟨a, b, c, d, e, t, f⟩ := hR
  refine ⟨a.go exS.rfl' (eF _ _ (by omega)) (fun b h1 h2 y => eI _ _ (by omega) (fun z => by omega)), b.go (fun b h1 h2 y => eI _ _ (by omega) (fun z => by omega)), c.go (eF _ _ (by omega)) (fun b h1 h2 y => eI _ _ (by omega) (fun z => by omega)), d.go (eF _ _ (by omega)) (fun y => eI _ _ (by omega) (fun z => by omega)), ⟨by omega, e28, fun v hv => ?_⟩, (eF _ _ (by omega)).trans t, (eF _ _ (by omega)).trans f⟩
  dsimp only
  by_cases q : v = nw
  · subst q
    rw [if_pos rfl]
    refine ⟨i0.trans e1, i1.trans e2, i2, i3.trans e4, i4, i5, i6, ?_, fun k hk => i8 k (by omega)⟩
    rw [i7]; dsimp only; split <;> first | rfl | (rename_i z; exfalso; rw [e3] at z; have := congrArg Int32.toInt z; rw [nI_toInt (by omega), show (-9 : Int32).toInt = -9 from rfl] at this; omega)
  · rw [if_neg q]
    have hv2 : v < nw := by omega
    have hne : ¬ nI v = nI nw := fun z => q (nI_iv z (by omega) (by omega))
    have ei : ∀ c, c ≠ 46 → I2 c (nI v) = I c (nI v) := fun c hc => eI _ _ (fun z => hne z.2.2) (fun z => hc z.1)
    obtain ⟨h1, h2, h3, h4, h5, h6, h7, h8, h9⟩ := e.2.2 v hv2
    exact ⟨(ei _ (by omega)).trans h1, (ei _ (by omega)).trans h2, (ei _ (by omega)).trans h3, (ei _ (by omega)).trans h4, (ei _ (by omega)).trans h5, (ei _ (by omega)).trans h6, (ei _ (by omega)).trans h7, (ei _ (by omega)).trans h8, fun k hk => (eI _ _ (by omega) (fun z => by obtain ⟨_, s, hs, z2⟩ := z; have := nI_iv z2 (by omega) (by omega); omega)).trans (h9 k hk)⟩
theorem iv_vwa {j r kn cn : Nat} {a3 : Int32} (h : ∀ v, v < nw → vWk nh wd hg (wk v)) (hj : j < nh) (hr : r < gRooms (wd j) (hg j)) (e3 : a3 = nI r) (hk : kn < 3) (hc : cn < 3) : ∀ v, v < nw + 1 → vWk nh wd hg ((fun v => if v = nw then (kn, j, a3, cn, 0, 0, 0, fun _ => 0) else wk v) v) := by
  intro v hv
  dsimp only
  by_cases q : v = nw
  · rw [if_pos q]; exact ⟨hk, hj, hc, Or.inr ⟨r, hr, e3⟩⟩
  · rw [if_neg q]; exact h v (by omega)
theorem iv_tiC {j : Nat} {wk2 : Nat → mhWk} {s2 : Nat → Int32} (hj : j < nh) (hW : mhWC S F2 I2 P nw aW wk2) (hs : smO I2 (aH j) (wd j) (hg j) s2) (hf : frW nw aW (aH j) F I F2 I2) (hC : mhCI S F I P nh wd hg aH kd sm so ln cl nr aR rp np pf nw aW wk tr fa) (hR : mhRI S F I nh wd hg kd sm so ln cl nr rp np pf nw wk tr fb) : mhCI S F2 I2 P nh wd hg aH kd (fun t => if t = j then s2 else sm t) so ln cl nr aR rp np pf nw aW wk2 tr fa ∧ mhRI S F2 I2 nh wd hg kd sm so ln cl nr rp np pf nw wk tr fb := by
  obtain ⟨g, a, b, c, d, e, x, t, f⟩ := hC
  have La := fun j (hj : j < nh) => a.lt hj
  have Lc := fun k (hk : k < nr) => c.lt hk
  have Le := fun v (hv : v < nw) => e.lt hv
  have lj := La j hj
  have lo : ∀ b k, b < 52 → F2 b k = F b k := fun b k q => hf.1 _ _ (fun v hv => by have := Le v hv; omega)
  have io : ∀ b y, b < 52 → I2 b y = I b y := fun b y q => hf.2 _ _ (fun v hv => by have := Le v hv; omega) (by omega)
  have ha : ∀ t, t < nh → ∀ q, 1 ≤ q → q ≤ 10 → ¬ (t = j ∧ q = 2) → ∀ y, I2 (aH t + q) y = I (aH t + q) y := fun t ht q q1 q2 q3 y => by
    have lt := La t ht
    refine hf.2 _ _ (fun v hv => by have := x.1 v t hv ht; omega) ?_
    by_cases e : t = j
    · subst e; omega
    · have := a.2.2.2 t j ht hj e; omega
  have hF : ∀ t, t < nh → ∀ k, F2 (aH t) k = F (aH t) k := fun t ht k => hf.1 _ _ (fun v hv => by have := x.1 v t hv ht; omega)
  refine ⟨⟨g, ⟨⟨a.1.1, a.1.2.1, (lo _ _ (by omega)).trans a.1.2.2.1, fun t ht => ⟨(a.1.2.2.2 t ht).1, ?_⟩⟩, fun t ht k hk => (ha t ht 1 (by omega) (by omega) (by omega) _).trans (a.2.1 t ht k hk), fun t ht k hk => ?_, a.2.2.2⟩, b.go exS.rfl' (fun b k _ _ => lo _ _ (by omega)) (fun b _ _ y => io _ _ (by omega)) (fun _ => rfl), c.go exS.rfl' (lo _ _ (by omega)) (fun k hk t ht => hf.1 _ _ (fun v hv => x.2.1 k v hk hv)) (fun _ _ => rfl), d.go (lo _ _ (by omega)) (fun y => io _ _ (by omega)), ⟨hW, e.2⟩, x, (lo _ _ (by omega)).trans t, (lo _ _ (by omega)).trans f⟩, hR.go exS.rfl' (fun k h1 h2 h3 => lo _ _ (by omega)) (fun b y h1 h2 h3 => io _ _ (by omega)) ((lo _ _ (by omega)).trans hR.efa)⟩
  · obtain ⟨h1, h2, h3, h4, h5, h6, h7, h8, h9, h10, h11⟩ := (a.1.2.2.2 t ht).2
    exact ⟨h1, h2, (hF t ht _).trans h3, (hF t ht _).trans h4, (hF t ht _).trans h5, (hF t ht _).trans h6, fun b hb y => by rw [Nat.add_assoc, ha t ht (3 + b) (by omega) (by omega) (by omega), ← Nat.add_assoc]; exact h7 b hb y, (ha t ht 10 (by omega) (by omega) (by omega) _).trans h8, (ha t ht 10 (by omega) (by omega) (by omega) _).trans h9, (ha t ht 10 (by omega) (by omega) (by omega) _).trans h10, h11⟩
  · dsimp only
    by_cases e : t = j
    · subst e; rw [if_pos rfl]; exact hs k hk
    · rw [if_neg e, ha t ht 2 (by omega) (by omega) (by omega)]; exact a.2.2.1 t ht k hk
theorem iv_tiR {j : Nat} {wk2 wk3 : Nat → mhWk} {s2 : Nat → Int32} {sm3 : Nat → Nat → Int32} (hj : j < nh) (hW : mhWM F I2 nw wk2) (hs : smM I2 j (wd j) (hg j) s2) (hf : frY j I I2) (hC : mhCI S F I P nh wd hg aH kd sm3 so ln cl nr aR rp np pf nw aW wk3 tr fa) (hR : mhRI S F I nh wd hg kd sm so ln cl nr rp np pf nw wk tr fb) : mhCI S F I2 P nh wd hg aH kd sm3 so ln cl nr aR rp np pf nw aW wk3 tr fa ∧ mhRI S F I2 nh wd hg kd (fun t => if t = j then s2 else sm t) so ln cl nr rp np pf nw wk2 tr fb := by
  have hn3 := hC.nh3
  have G := fun t (ht : t < nh) => gBd (hC.gok ht)
  refine ⟨hC.go (fun b k q1 q2 q3 q4 q5 => rfl) (fun b y q1 q2 q3 q4 q5 q6 q7 => hf.1 _ _ (by omega) (by omega)) hC.efa, ?_⟩
  obtain ⟨a, b, c, d, e, t, f⟩ := hR
  refine ⟨⟨⟨a.1.1, a.1.2.1, a.1.2.2.1, fun t ht => ⟨(a.1.2.2.2 t ht).1, (a.1.2.2.2 t ht).2.1, (hf.1 _ _ (by omega) (by omega)).trans (a.1.2.2.2 t ht).2.2.1, (hf.1 _ _ (by omega) (by omega)).trans (a.1.2.2.2 t ht).2.2.2⟩⟩, fun t ht k hk => (hf.1 _ _ (by omega) (by omega)).trans (a.2.1 t ht k hk), fun t ht k hk => ?_⟩, b.go (fun b h1 h2 y => hf.1 _ _ (by omega) (by omega)), c.go rfl (fun b h1 h2 y => hf.1 _ _ (by omega) (by omega)), d.go rfl (fun y => hf.1 _ _ (by omega) (by omega)), hW, t, f⟩
  dsimp only
  by_cases e : t = j
  · subst e; rw [if_pos rfl]; exact hs k hk
  · have := G t ht
    rw [if_neg e, hf.2 _ (fun s hs z => by have := nI_iv z (by omega) (by omega); omega)]; exact a.2.2 t ht k hk
end MHI9
set_option maxHeartbeats 4000000 in
set_option maxRecDepth 100000 in
theorem pr_walker {l : Launch} {K : mhX} {S : List mhS} {F : mhF} {I : mhI} {J : mhJ} {P : mhP} {Φ : mhQ} {Ψ : Int32 → mhQ} {a1 a2 a3 a4 : Int32} (h : mhIv S F I P) (h1 : ∀ (x : Int32) (S : List mhS) (F : mhF) (I : mhI) (J : mhJ) (P : mhP), mhKX7 S → mhOk l K mX7_walker [.ref 21, .int a1, .int a2, .int a3, .int a4] S F I J P (Ψ x) → Φ (some (.int x)) S F I J P) (h2 : ∀ (x : Int32) (S : List mhS) (F : mhF) (I : mhI) (J : mhJ) (P : mhP), mhIv S F I P → Ψ x (some (.int x)) S F I J P) : mhOk l K mX6_walker [.ref 0, .int a1, .int a2, .int a3, .int a4] S F I J P Φ := by
  obtain ⟨nh, wd, hg, aH, kd, sm, so, ln, cl, nr, aR, rp, np, pf, nw, aW, wk, tr, fa, hC, hR, hV, hq⟩ := h
  refine sp_X6_walker hC.2.1.1 hC.2.2.2.2.2.1.1.1 hC.2.2.2.2.2.1.1.2.1 (fun g => ?_) (fun g gb => ?_) (fun g ga h12 => ?_) (fun j r hj hr ex ey ga hlt S2 F2 I2 hs hl h5 eF e9 f0 f1 f2 f3 f4 eI i0 => ?_)
  · skip
    refine h1 _ _ _ _ _ _ hR.1.1.1 ?_
    refine sp_X7_walker hR.1.1 hR.2.2.2.2.1.1 hR.2.2.2.2.1.2.1 (fun g' => ?_) (fun g' gb' => ?_) (fun g' ga' h12' => ?_) (fun j' r' hj' hr' ex' ey' ga' hlt' F2' I2' eF' e28' eI' i0' i1' i2' i3' i4' i5' i6' i7' i8' => ?_)
    · skip
      exact pr_go h2 (rfl) ⟨_, _, _, _, _, _, _, _, _, _, _, _, _, _, _, _, _, _, _, hC, hR, hV, hq⟩
    · skip
      exact absurd g' g
    · skip
      exact absurd g' g
    · skip
      exact absurd ⟨j', hj', ex', r', hr', ey'⟩ g
  · skip
    refine h1 _ _ _ _ _ _ hR.1.1.1 ?_
    refine sp_X7_walker hR.1.1 hR.2.2.2.2.1.1 hR.2.2.2.2.1.2.1 (fun g' => ?_) (fun g' gb' => ?_) (fun g' ga' h12' => ?_) (fun j' r' hj' hr' ex' ey' ga' hlt' F2' I2' eF' e28' eI' i0' i1' i2' i3' i4' i5' i6' i7' i8' => ?_)
    · skip
      exact absurd g g'
    · skip
      exact pr_go h2 (rfl) ⟨_, _, _, _, _, _, _, _, _, _, _, _, _, _, _, _, _, _, _, hC, hR, hV, hq⟩
    · skip
      exact absurd ga' gb
    · skip
      exact absurd ga' gb
  · skip
    refine h1 _ _ _ _ _ _ hR.1.1.1 ?_
    refine sp_X7_walker hR.1.1 hR.2.2.2.2.1.1 hR.2.2.2.2.1.2.1 (fun g' => ?_) (fun g' gb' => ?_) (fun g' ga' h12' => ?_) (fun j' r' hj' hr' ex' ey' ga' hlt' F2' I2' eF' e28' eI' i0' i1' i2' i3' i4' i5' i6' i7' i8' => ?_)
    · skip
      exact absurd g g'
    · skip
      exact absurd ga gb'
    · skip
      exact pr_go h2 (rfl) ⟨_, _, _, _, _, _, _, _, _, _, _, _, _, _, _, _, _, _, _, hC, hR, hV, hq⟩
    · skip
      exact absurd hlt' (show ¬ nw < 8 by omega)
  · skip
    obtain ⟨kn, hkn, ekn⟩ := iv_so3 ga.1
    obtain ⟨cn, hcn, ecn⟩ := iv_so3 ga.2
    have g24 := gBd (hC.gok hj)
    obtain ⟨hC, hR⟩ := iv_waC hC hR hlt ekn ex ecn hs hl h5 eF e9 f0 f1 f2 f3 f4 eI i0
    refine h1 _ _ _ _ _ _ hR.1.1.1 ?_
    refine sp_X7_walker hR.1.1 hR.2.2.2.2.1.1 hR.2.2.2.2.1.2.1 (fun g' => ?_) (fun g' gb' => ?_) (fun g' ga' h12' => ?_) (fun j' r' hj' hr' ex' ey' ga' hlt' F2' I2' eF' e28' eI' i0' i1' i2' i3' i4' i5' i6' i7' i8' => ?_)
    · skip
      exact absurd ⟨j, hj, ex, r, hr, ey⟩ g'
    · skip
      exact absurd ga gb'
    · skip
      exact absurd hlt (show ¬ nw < 8 by omega)
    · skip
      obtain rfl := iv_j hC hj hj' ex ex'
      obtain rfl := iv_r hC hj hr hr' ey ey'
      obtain ⟨hC, hR⟩ := iv_waR hlt ekn ex ey (show r < 24 by omega) ecn eF' e28' eI' i0' i1' i2' i3' i4' i5' i6' i7' i8' hC hR
      exact pr_go h2 rfl ⟨_, _, _, _, _, _, _, _, _, _, _, _, _, _, _, _, _, _, _, hC, hR, ⟨hV.1, hV.2.1, iv_vwa hV.2.2 hj hr ey hkn hcn⟩, hq⟩
set_option maxHeartbeats 4000000 in
set_option maxRecDepth 100000 in
theorem pr_ticks {l : Launch} {K : mhX} {S : List mhS} {F : mhF} {I : mhI} {J : mhJ} {P : mhP} {Φ : mhQ} {Ψ : Int32 → mhQ} {a1 a2 : Int32} (h : mhIv S F I P) (h1 : ∀ (x : Int32) (S : List mhS) (F : mhF) (I : mhI) (J : mhJ) (P : mhP), mhKX7 S → mhOk l K mX7_ticks [.ref 21, .int a1, .int a2] S F I J P (Ψ x) → Φ (some (.int x)) S F I J P) (h2 : ∀ (x : Int32) (S : List mhS) (F : mhF) (I : mhI) (J : mhJ) (P : mhP), mhIv S F I P → Ψ x (some (.int x)) S F I J P) : mhOk l K mX6_ticks [.ref 0, .int a1, .int a2] S F I J P Φ := by
  obtain ⟨nh, wd, hg, aH, kd, sm, so, ln, cl, nr, aR, rp, np, pf, nw, aW, wk, tr, fa, hC, hR, hV, hq⟩ := h
  refine sp_X6_ticks hC.2.1.1 hC.2.1.2.1 hC.2.2.2.2.2.1.1 hC.2.1.2.2.1 hV.2.2 hC.2.2.2.2.2.1.2 hC.2.2.2.2.2.2.1.1 (fun g => ?_) (fun g gb => ?_) (fun j m hj ex en hm ga F2 I2 hw hs hf => ?_)
  · skip
    refine h1 _ _ _ _ _ _ hR.1.1.1 ?_
    refine sp_X7_ticks hR.1.1 hR.1.2.1 hR.2.2.2.2.1 hR.1.2.2 hV.2.2 (fun g' => ?_) (fun g' gb' => ?_) (fun j' m' hj' ex' en' hm' ga' I2' hw' hs' hf' => ?_)
    · skip
      exact pr_go h2 (rfl) ⟨_, _, _, _, _, _, _, _, _, _, _, _, _, _, _, _, _, _, _, hC, hR, hV, hq⟩
    · skip
      exact absurd g' g
    · skip
      exact absurd ⟨j', hj', ex'⟩ g
  · skip
    refine h1 _ _ _ _ _ _ hR.1.1.1 ?_
    refine sp_X7_ticks hR.1.1 hR.1.2.1 hR.2.2.2.2.1 hR.1.2.2 hV.2.2 (fun g' => ?_) (fun g' gb' => ?_) (fun j' m' hj' ex' en' hm' ga' I2' hw' hs' hf' => ?_)
    · skip
      exact absurd g g'
    · skip
      exact pr_go h2 (rfl) ⟨_, _, _, _, _, _, _, _, _, _, _, _, _, _, _, _, _, _, _, hC, hR, hV, hq⟩
    · skip
      exact absurd ga' gb
  · skip
    have hgo := hC.gok hj
    obtain ⟨hC, hR⟩ := iv_tiC hj hw hs hf hC hR
    refine h1 _ _ _ _ _ _ hR.1.1.1 ?_
    refine sp_X7_ticks hR.1.1 hR.1.2.1 hR.2.2.2.2.1 hR.1.2.2 hV.2.2 (fun g' => ?_) (fun g' gb' => ?_) (fun j' m' hj' ex' en' hm' ga' I2' hw' hs' hf' => ?_)
    · skip
      exact absurd ⟨j, hj, ex⟩ g'
    · skip
      exact absurd ga gb'
    · skip
      obtain rfl := iv_j hC hj hj' ex ex'
      obtain rfl := iv_m (by omega) (by omega) en en'
      obtain ⟨hC, hR⟩ := iv_tiR hj hw' hs' hf' hC hR
      exact pr_go h2 rfl ⟨_, _, _, _, _, _, _, _, _, _, _, _, _, _, _, _, _, _, _, hC, hR, ⟨hV.1, hV.2.1, wkRun_v hgo hV.2.2⟩, hq⟩
