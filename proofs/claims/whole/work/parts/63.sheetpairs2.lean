/-! lose, put, copy: what both sides do -/
section MHI6
variable {S S2 : List mhS} {F F2 : mhF} {I I2 : mhI} {P P2 : mhP} {nh nr np nw : Nat} {wd hg aH aR aW : Nat → Nat} {kd sm cl : Nat → Nat → Int32} {so ln : Nat → Int32} {rp : mhRp} {pf : Nat → Int32} {wk : Nat → mhWk} {tr fa : Int32} {fb : Int32} {F3 : mhF} {I3 : mhI}
theorem iv_shX (hC : mhCI S F I P nh wd hg aH kd sm so ln cl nr aR rp np pf nw aW wk tr fa) (hR : mhRI S F I nh wd hg kd sm so ln cl nr rp np pf nw wk tr fb) (fo : ∀ b k, ¬ (13 ≤ b ∧ b ≤ 20) → ¬ (b = 0 ∧ k = 12) → F2 b k = F b k) (io : ∀ b y, ¬ (13 ≤ b ∧ b ≤ 20) → I2 b y = I b y) (hs : mhSh S F2 P) (fo3 : ∀ b k, ¬ (b = 21 ∧ k = 0) → F3 b k = F2 b k) (io3 : ∀ b y, ¬ (22 ≤ b ∧ b ≤ 24) → I3 b y = I2 b y) (hz : F3 21 0 = F2 0 12) (hsm : mhSm I3)
    (rs : ∀ t, t < 4 → I3 22 (nI t) = F2 (13 + 2 * t) 1 ∧ (¬ F2 (13 + 2 * t) 1 = -9 → I3 23 (nI t) = F2 (13 + 2 * t) 2 ∧ ∀ c, c < 60 → I3 24 (nI (60 * t + c)) = I2 (13 + 2 * t + 1) (nI c))) : mhRI S F2 I2 nh wd hg kd sm so ln cl nr rp np pf nw wk tr fb ∧ ∃ (so2 ln2 : Nat → Int32) (cl2 : Nat → Nat → Int32), mhCI S F3 I3 P nh wd hg aH kd sm so2 ln2 cl2 nr aR rp np pf nw aW wk tr (F2 0 12) ∧ mhRI S F3 I3 nh wd hg kd sm so2 ln2 cl2 nr rp np pf nw wk tr (F2 0 12) ∧ ∀ i a b, nI a = nI b → cl2 i a = cl2 i b := by
  have hC2 := hC.sheet fo io hs rfl
  have hR2 : mhRI S F2 I2 nh wd hg kd sm so ln cl nr rp np pf nw wk tr fb := hR.go exS.rfl' (fun k q1 q2 q3 => fo _ _ (by omega) (by omega)) (fun b y q1 q2 q3 => io _ _ (by omega)) ((fo _ _ (by omega) (by omega)).trans hR.efa)
  exact ⟨hR2, _, _, _, hC2.go (fun b k q1 q2 q3 q4 q5 => fo3 _ _ (by omega)) (fun b y q1 q2 q3 q4 q5 q6 q7 => io3 b y (by omega)) (fo3 _ _ (by omega)), hR2.sheet (fun k q1 => fo3 _ _ (by omega)) (fun b y q1 q2 => io3 b y (by omega)) ⟨hsm, rs⟩ hz, fun i a b e => by rw [e]⟩
theorem iv_old (hC : mhCI S F I P nh wd hg aH kd sm so ln cl nr aR rp np pf nw aW wk tr fa) (hR : mhRI S F I nh wd hg kd sm so ln cl nr rp np pf nw wk tr fb) {t : Nat} (ht : t < 4) : I 22 (nI t) = F (13 + 2 * t) 1 ∧ (¬ F (13 + 2 * t) 1 = -9 → I 23 (nI t) = F (13 + 2 * t) 2 ∧ ∀ c, c < 60 → I 24 (nI (60 * t + c)) = I (13 + 2 * t + 1) (nI c)) := by
  have a := hC.2.2.1.2 t ht
  have b := hR.2.1.2 t ht
  rw [a.1, b.1]
  exact ⟨rfl, fun hz => ⟨(b.2 hz).1.trans (a.2 hz).1.symm, fun c hc => ((b.2 hz).2 c hc).trans ((a.2 hz).2 c hc).symm⟩⟩
theorem iv_lose {j : Nat} (hj : j < 4) (hC : mhCI S F I P nh wd hg aH kd sm so ln cl nr aR rp np pf nw aW wk tr fa) (hR : mhRI S F I nh wd hg kd sm so ln cl nr rp np pf nw wk tr fa) : mhRI S (mhUF (mhUF F (13 + 2 * j) 1 (-9)) (13 + 2 * j) 2 0) (mhFill I (13 + 2 * j + 1) 60 0) nh wd hg kd sm so ln cl nr rp np pf nw wk tr fa ∧ ∃ (so2 ln2 : Nat → Int32) (cl2 : Nat → Nat → Int32), mhCI S (mhUF (mhUF F (13 + 2 * j) 1 (-9)) (13 + 2 * j) 2 0) (mhUI (mhFill I (13 + 2 * j + 1) 60 0) 22 (nI j) (-9)) P nh wd hg aH kd sm so2 ln2 cl2 nr aR rp np pf nw aW wk tr ((mhUF (mhUF F (13 + 2 * j) 1 (-9)) (13 + 2 * j) 2 0) 0 12) ∧ mhRI S (mhUF (mhUF F (13 + 2 * j) 1 (-9)) (13 + 2 * j) 2 0) (mhUI (mhFill I (13 + 2 * j + 1) 60 0) 22 (nI j) (-9)) nh wd hg kd sm so2 ln2 cl2 nr rp np pf nw wk tr ((mhUF (mhUF F (13 + 2 * j) 1 (-9)) (13 + 2 * j) 2 0) 0 12) ∧ ∀ i a b, nI a = nI b → cl2 i a = cl2 i b := by
  have fo : ∀ b k, ¬ (b = 13 + 2 * j ∧ (k = 1 ∨ k = 2)) → (mhUF (mhUF F (13 + 2 * j) 1 (-9)) (13 + 2 * j) 2 0) b k = F b k := fun b k q1 => by rw [mhUF_nk (by omega), mhUF_nk (by omega)]
  refine iv_shX (F2 := mhUF (mhUF F (13 + 2 * j) 1 (-9)) (13 + 2 * j) 2 0) (F3 := mhUF (mhUF F (13 + 2 * j) 1 (-9)) (13 + 2 * j) 2 0) (I2 := mhFill I (13 + 2 * j + 1) 60 0) (I3 := mhUI (mhFill I (13 + 2 * j + 1) 60 0) 22 (nI j) (-9)) hC hR (fun b k q1 q2 => fo b k (by omega)) (fun b y q => mhFill_ne (by omega)) (fun t ht => ⟨(hC.2.2.1.1 t ht).1, (hC.2.2.1.1 t ht).2.1, ?_⟩) (fun b k q => rfl) (fun b y q => mhUI_ne (by omega)) ?_ (fun t ht => ?_) (fun t ht => ?_)
  · by_cases e : t = j
    · subst e; rw [mhUF_at]; exact ⟨by decide, by decide⟩
    · rw [fo _ _ (by omega)]; exact (hC.2.2.1.1 t ht).2.2
  · rw [fo _ _ (by omega), fo _ _ (by omega), hC.efa, hR.efa]
  · rw [mhUI_ne (by omega), mhFill_ne (by omega)]; exact hR.2.1.1 t ht
  · by_cases e : t = j
    · subst e
      have f1 : (mhUF (mhUF F (13 + 2 * t) 1 (-9)) (13 + 2 * t) 2 0) (13 + 2 * t) 1 = -9 := by rw [mhUF_nk (by omega), mhUF_at]
      exact ⟨by rw [f1, mhUI_sl], fun q => absurd f1 q⟩
    · have q := iv_old hC hR ht
      rw [fo _ _ (by omega), fo _ _ (by omega), mhUI_nk (fun q => nI_jj ht hj e q.2), mhFill_ne (by omega)]
      refine ⟨q.1, fun hz => ⟨?_, fun c hc => ?_⟩⟩
      · rw [mhUI_ne (by omega), mhFill_ne (by omega)]; exact (q.2 hz).1
      · rw [mhUI_ne (by omega), mhFill_ne (by omega), mhFill_ne (by omega)]; exact (q.2 hz).2 c hc
theorem iv_put {j c0 : Nat} (hj : j < 4) (hc0 : c0 < 60) {x : Int32} (hC : mhCI S F I P nh wd hg aH kd sm so ln cl nr aR rp np pf nw aW wk tr fa) (hR : mhRI S F I nh wd hg kd sm so ln cl nr rp np pf nw wk tr fb) : mhRI S (mhUF F 0 12 0) (mhUI I (13 + 2 * j + 1) (nI c0) x) nh wd hg kd sm so ln cl nr rp np pf nw wk tr fb ∧ ∃ (so2 ln2 : Nat → Int32) (cl2 : Nat → Nat → Int32), mhCI S (mhUF (mhUF F 0 12 0) 21 0 0) (mhUI (mhUI I (13 + 2 * j + 1) (nI c0) x) 24 (nI (60 * j + c0)) x) P nh wd hg aH kd sm so2 ln2 cl2 nr aR rp np pf nw aW wk tr ((mhUF F 0 12 0) 0 12) ∧ mhRI S (mhUF (mhUF F 0 12 0) 21 0 0) (mhUI (mhUI I (13 + 2 * j + 1) (nI c0) x) 24 (nI (60 * j + c0)) x) nh wd hg kd sm so2 ln2 cl2 nr rp np pf nw wk tr ((mhUF F 0 12 0) 0 12) ∧ ∀ i a b, nI a = nI b → cl2 i a = cl2 i b := by
  refine iv_shX (F2 := mhUF F 0 12 0) (F3 := mhUF (mhUF F 0 12 0) 21 0 0) (I2 := mhUI I (13 + 2 * j + 1) (nI c0) x) (I3 := mhUI (mhUI I (13 + 2 * j + 1) (nI c0) x) 24 (nI (60 * j + c0)) x) hC hR (fun b k q1 q2 => mhUF_nk (by omega)) (fun b y q => mhUI_ne (by omega)) (fun t ht => ⟨(hC.2.2.1.1 t ht).1, (hC.2.2.1.1 t ht).2.1, ?_⟩) (fun b k q => mhUF_nk (by omega)) (fun b y q => mhUI_ne (by omega)) ?_ (fun t ht => ?_) (fun t ht => ?_)
  · rw [mhUF_nk (by omega)]; exact (hC.2.2.1.1 t ht).2.2
  · rw [mhUF_at, mhUF_at]
  · rw [mhUI_ne (by omega), mhUI_ne (by omega)]; exact hR.2.1.1 t ht
  · have q := iv_old hC hR ht
    rw [mhUF_nk (by omega), mhUF_nk (by omega), mhUI_ne (by omega), mhUI_ne (by omega)]
    refine ⟨q.1, fun hz => ⟨?_, fun c hc => ?_⟩⟩
    · rw [mhUI_ne (by omega), mhUI_ne (by omega)]; exact (q.2 hz).1
    · rw [mhUI_at (I := mhUI I (13 + 2 * j + 1) (nI c0) x) (a := 24) (b := 24) (i := 60 * j + c0) (x := 60 * t + c) (by omega) (by omega), mhUI_at (I := I) (a := 13 + 2 * j + 1) (b := 13 + 2 * t + 1) (i := c0) (x := c) (by omega) (by omega)]
      by_cases e : t = j ∧ c = c0
      · rw [if_pos ⟨rfl, by omega⟩, if_pos ⟨by omega, e.2⟩]
      · rw [if_neg (by omega), if_neg (by omega), mhUI_ne (by omega)]; exact (q.2 hz).2 c hc
theorem iv_copy {a b x y z : Nat} (ha : a < 4) (hb : b < 4) (hx : x + z ≤ 60) (hy : y + z ≤ 60) (hC : mhCI S F I P nh wd hg aH kd sm so ln cl nr aR rp np pf nw aW wk tr fa) (hR : mhRI S F I nh wd hg kd sm so ln cl nr rp np pf nw wk tr fb) (hz9 : ¬ F (13 + 2 * a) 1 = -9) : mhRI S (mhUF F 0 12 0) (mhCp I (13 + 2 * a + 1) x (13 + 2 * b + 1) y z) nh wd hg kd sm so ln cl nr rp np pf nw wk tr fb ∧ ∃ (so2 ln2 : Nat → Int32) (cl2 : Nat → Nat → Int32), mhCI S (mhUF (mhUF F 0 12 0) 21 0 0) (mhCp (mhCp I (13 + 2 * a + 1) x (13 + 2 * b + 1) y z) 24 (60 * a + x) 24 (60 * b + y) z) P nh wd hg aH kd sm so2 ln2 cl2 nr aR rp np pf nw aW wk tr ((mhUF F 0 12 0) 0 12) ∧ mhRI S (mhUF (mhUF F 0 12 0) 21 0 0) (mhCp (mhCp I (13 + 2 * a + 1) x (13 + 2 * b + 1) y z) 24 (60 * a + x) 24 (60 * b + y) z) nh wd hg kd sm so2 ln2 cl2 nr rp np pf nw wk tr ((mhUF F 0 12 0) 0 12) ∧ ∀ i a b, nI a = nI b → cl2 i a = cl2 i b := by
  refine iv_shX (F2 := mhUF F 0 12 0) (F3 := mhUF (mhUF F 0 12 0) 21 0 0) (I2 := mhCp I (13 + 2 * a + 1) x (13 + 2 * b + 1) y z) (I3 := mhCp (mhCp I (13 + 2 * a + 1) x (13 + 2 * b + 1) y z) 24 (60 * a + x) 24 (60 * b + y) z) hC hR (fun b k q1 q2 => mhUF_nk (by omega)) (fun b y q => mhCp_ne (by omega)) (fun t ht => ⟨(hC.2.2.1.1 t ht).1, (hC.2.2.1.1 t ht).2.1, ?_⟩) (fun b k q => mhUF_nk (by omega)) (fun b y q => mhCp_ne (by omega)) ?_ (fun t ht => ?_) (fun t ht => ?_)
  · rw [mhUF_nk (by omega)]; exact (hC.2.2.1.1 t ht).2.2
  · rw [mhUF_at, mhUF_at]
  · rw [mhCp_ne (by omega), mhCp_ne (by omega)]; exact hR.2.1.1 t ht
  · have q := iv_old hC hR ht
    rw [mhUF_nk (by omega), mhUF_nk (by omega), mhCp_ne (by omega), mhCp_ne (by omega)]
    refine ⟨q.1, fun hz => ⟨?_, fun c hc => ?_⟩⟩
    · rw [mhCp_ne (by omega), mhCp_ne (by omega)]; exact (q.2 hz).1
    · rw [mhCp_at (I := mhCp I (13 + 2 * a + 1) x (13 + 2 * b + 1) y z) (b := 24) (x := 60 * t + c) (by omega), mhCp_at (I := I) (b := 13 + 2 * t + 1) (x := c) (by omega)]
      by_cases e : t = b ∧ y ≤ c ∧ c < y + z
      · rw [if_pos ⟨rfl, by omega, by omega⟩, if_pos ⟨by omega, e.2⟩, mhCp_ne (by omega), show 60 * a + x + (60 * t + c - (60 * b + y)) = 60 * a + (x + (c - y)) by omega]
        exact ((iv_old hC hR ha).2 hz9).2 _ (by omega)
      · rw [if_neg (by omega), if_neg (by omega), mhCp_ne (by omega)]; exact (q.2 hz).2 c hc
theorem iv_pu (hC : mhCI S F I P nh wd hg aH kd sm so ln cl nr aR rp np pf nw aW wk tr fa) (hR : mhRI S F I nh wd hg kd sm so ln cl nr rp np pf nw wk tr fb) {j : Nat} (hj : j < 4) {i : Int32} : mhPuOk (I 22 (nI j)) (I 23 (nI j)) i = mhPuOk (F (13 + 2 * j) 1) (F (13 + 2 * j) 2) i ∧ mhPuR (I 22 (nI j)) (I 23 (nI j)) i = mhPuR (F (13 + 2 * j) 1) (F (13 + 2 * j) 2) i ∧ mhPuF (I 22 (nI j)) (I 23 (nI j)) i = mhPuF (F (13 + 2 * j) 1) (F (13 + 2 * j) 2) i := by
  have q := iv_old hC hR hj
  rw [q.1]
  by_cases hz : F (13 + 2 * j) 1 = -9
  · rw [hz]; unfold mhPuOk mhPuR mhPuF; exact ⟨propext ⟨fun h => absurd rfl h.1, fun h => absurd rfl h.1⟩, by rw [if_pos rfl, if_pos rfl], by rw [if_pos rfl, if_pos rfl]⟩
  · rw [(q.2 hz).1]; exact ⟨rfl, rfl, rfl⟩
theorem iv_co (hC : mhCI S F I P nh wd hg aH kd sm so ln cl nr aR rp np pf nw aW wk tr fa) (hR : mhRI S F I nh wd hg kd sm so ln cl nr rp np pf nw wk tr fb) {a b : Nat} (ha : a < 4) (hb : b < 4) {i j n : Int32} : mhCoF (I 22 (nI a)) (I 23 (nI a)) (I 22 (nI b)) (I 23 (nI b)) i j n = mhCoF (F (13 + 2 * a) 1) (F (13 + 2 * a) 2) (F (13 + 2 * b) 1) (F (13 + 2 * b) 2) i j n := by
  have q := iv_old hC hR ha
  have r := iv_old hC hR hb
  rw [q.1, r.1]
  by_cases hz : F (13 + 2 * a) 1 = -9 ∨ F (13 + 2 * b) 1 = -9
  · unfold mhCoF; rw [if_pos hz, if_pos hz]
  · rw [(q.2 (fun e => hz (Or.inl e))).1, (r.2 (fun e => hz (Or.inr e))).1]
theorem iv_c60 {i len : Int32} (h0 : 0 ≤ i) (h1 : i ≤ len - 1) (l0 : 0 ≤ len) (l1 : len ≤ 60) : ∃ c, c < 60 ∧ i = nI c := by
  have hi2 : 0 ≤ i ∧ i < 60 := by grind
  refine ⟨i.toNatClampNeg, ?_, ?_⟩
  · have := Int32.le_iff_toInt_le.mp hi2.1; have := Int32.lt_iff_toInt_lt.mp hi2.2
    rw [show (0 : Int32).toInt = 0 from rfl] at *; rw [show (60 : Int32).toInt = 60 from rfl] at *; unfold Int32.toNatClampNeg; omega
  · have h0 := Int32.le_iff_toInt_le.mp hi2.1; have := Int32.lt_iff_toInt_lt.mp hi2.2
    rw [show (0 : Int32).toInt = 0 from rfl] at h0; rw [show (60 : Int32).toInt = 60 from rfl] at this
    refine Int32.toInt_inj.mp ?_; unfold Int32.toNatClampNeg; rw [nI_toInt (by omega)]; omega
theorem iv_b60 {x z : Nat} {len : Int32} (hx : x < 2 ^ 31) (hz : z < 2 ^ 31) (l1 : len ≤ 60) (a : 0 ≤ nI x ∧ nI x ≤ len ∧ nI z ≤ len - nI x) : x + z ≤ 60 := by
  obtain ⟨a0, a1, a2⟩ := a
  have e1 : nI x ≤ 60 := by grind
  have h1 : x ≤ 60 := (nI_leI (b := 60) hx (by decide)).mp e1
  have e2 : nI z ≤ 60 - nI x := by grind
  have h2 : nI z ≤ nI (60 - x) := by rw [show nI (60 - x) = 60 - nI x from by rw [show (60 : Int32) = nI ((60 - x) + x) from by rw [show (60 - x) + x = 60 by omega]; rfl, ← nI_add]; grind]; exact e2
  have := (nI_leI hz (by omega)).mp h2
  omega
end MHI6
theorem iv_pos {i : Int32} (h : 0 ≤ i) : ∃ x, x < 2 ^ 31 ∧ i = nI x := by
  have h0 := Int32.le_iff_toInt_le.mp h
  have h1 := Int32.toInt_lt i
  rw [show (0 : Int32).toInt = 0 from rfl] at h0
  refine ⟨i.toNatClampNeg, by unfold Int32.toNatClampNeg; omega, Int32.toInt_inj.mp ?_⟩
  unfold Int32.toNatClampNeg; rw [nI_toInt (by omega)]; omega
theorem iv_clamp {x : Nat} (h : x < 2 ^ 31) : (nI x).toNatClampNeg = x := by unfold Int32.toNatClampNeg; rw [nI_toInt h]; omega
set_option maxHeartbeats 4000000 in
set_option maxRecDepth 100000 in
theorem pr_lose {l : Launch} {K : mhX} {S : List mhS} {F : mhF} {I : mhI} {J : mhJ} {P : mhP} {Φ : mhQ} {Ψ : Int32 → mhQ} {a1 : Int32} (h : mhIv S F I P) (h1 : ∀ (x : Int32) (S : List mhS) (F : mhF) (I : mhI) (J : mhJ) (P : mhP), mhKX7 S → mhOk l K mX7_lose [.ref 21, .int a1] S F I J P (Ψ x) → Φ (some (.int x)) S F I J P) (h2 : ∀ (x : Int32) (S : List mhS) (F : mhF) (I : mhI) (J : mhJ) (P : mhP), mhIv S F I P → Ψ x (some (.int x)) S F I J P) : mhOk l K mX6_lose [.ref 0, .int a1] S F I J P Φ := by
  obtain ⟨nh, wd, hg, aH, kd, sm, so, ln, cl, nr, aR, rp, np, pf, nw, aW, wk, tr, fa, hC, hR, hV, hq⟩ := h
  refine sp_X6_lose hC.2.1.1.1 hC.2.2.1.1 (fun g => ?_) (fun j hj ek g => ?_)
  · refine h1 _ _ _ _ _ _ hR.1.1.1 ?_
    refine sp_X7_lose hR.1.1.1 hR.2.1.1 (fun _ => ?_) (fun gx => absurd gx g)
    exact pr_go h2 rfl ⟨_, _, _, _, _, _, _, _, _, _, _, _, _, _, _, _, _, _, _, hC, hR, hV, hq⟩
  · subst ek
    have q := iv_old hC hR hj
    refine h1 _ _ _ _ _ _ hR.1.1.1 ?_
    obtain ⟨hR2, so2, ln2, cl2, hC3, hR3, hq3⟩ := iv_lose hj hC hR
    refine sp_X7_lose hR2.1.1.1 hR2.2.1.1 (fun gx => absurd g gx) (fun _ => ?_)
    exact pr_go h2 (by rw [mhFill_ne (by omega), q.1]) ⟨nh, wd, hg, aH, kd, sm, so2, ln2, cl2, nr, aR, rp, np, pf, nw, aW, wk, tr, _, hC3, hR3, hV, hq3⟩
set_option maxHeartbeats 4000000 in
set_option maxRecDepth 100000 in
theorem pr_put {l : Launch} {K : mhX} {S : List mhS} {F : mhF} {I : mhI} {J : mhJ} {P : mhP} {Φ : mhQ} {Ψ : Int32 → mhQ} {a1 a2 a3 : Int32} (h : mhIv S F I P) (h1 : ∀ (x : Int32) (S : List mhS) (F : mhF) (I : mhI) (J : mhJ) (P : mhP), mhKX7 S → mhOk l K mX7_put [.ref 21, .int a1, .int a2, .int a3] S F I J P (Ψ x) → Φ (some (.int x)) S F I J P) (h2 : ∀ (x : Int32) (S : List mhS) (F : mhF) (I : mhI) (J : mhJ) (P : mhP), mhIv S F I P → Ψ x (some (.int x)) S F I J P) : mhOk l K mX6_put [.ref 0, .int a1, .int a2, .int a3] S F I J P Φ := by
  obtain ⟨nh, wd, hg, aH, kd, sm, so, ln, cl, nr, aR, rp, np, pf, nw, aW, wk, tr, fa, hC, hR, hV, hq⟩ := h
  refine sp_X6_put hC.2.1.1.1 hC.2.2.1.1 (fun g => ?_) (fun j hj ek g gb => ?_) (fun j hj ek g gb => ?_)
  · refine h1 _ _ _ _ _ _ hR.1.1.1 ?_
    obtain ⟨hC, hR⟩ := iv_f12 0 hC hR
    refine sp_X7_put hR.1.1.1 hR.2.1.1 (fun _ => ?_) (fun gx _ => absurd gx g) (fun gx _ => absurd gx g)
    obtain ⟨hC, hR⟩ := iv_f0 0 hC hR
    exact pr_go h2 rfl ⟨_, _, _, _, _, _, _, _, _, _, _, _, _, _, _, _, _, _, _, hC, hR, hV, hq⟩
  · subst ek
    obtain ⟨p1, p2, p3⟩ := iv_pu hC hR hj (i := a2)
    refine h1 _ _ _ _ _ _ hR.1.1.1 ?_
    obtain ⟨hC, hR⟩ := iv_f12 (mhPuF (F (13 + 2 * j) 1) (F (13 + 2 * j) 2) a2) hC hR
    refine sp_X7_put hR.1.1.1 hR.2.1.1 (fun gx => absurd g gx) (fun _ _ => ?_) (fun _ gx => absurd (p1 ▸ gx) gb)
    rw [p3]
    obtain ⟨hC, hR⟩ := iv_f0 (mhPuF (F (13 + 2 * j) 1) (F (13 + 2 * j) 2) a2) hC hR
    exact pr_go h2 p2 ⟨_, _, _, _, _, _, _, _, _, _, _, _, _, _, _, _, _, _, _, hC, hR, hV, hq⟩
  · subst ek
    obtain ⟨p1, p2, p3⟩ := iv_pu hC hR hj (i := a2)
    have q := iv_old hC hR hj
    have hb := (hC.2.2.1.1 j hj).2.2
    obtain ⟨c0, hc0, rfl⟩ := iv_c60 gb.2.1 gb.2.2 hb.1 hb.2
    refine h1 _ _ _ _ _ _ hR.1.1.1 ?_
    obtain ⟨hR2, so2, ln2, cl2, hC3, hR3, hq3⟩ := iv_put hj hc0 (x := mhCut (F (13 + 2 * j) 1) a3) hC hR
    have e22 : ∀ y, (mhUI I (13 + 2 * j + 1) (nI c0) (mhCut (F (13 + 2 * j) 1) a3)) 22 y = I 22 y := fun y => mhUI_ne (by omega)
    have e23 : ∀ y, (mhUI I (13 + 2 * j + 1) (nI c0) (mhCut (F (13 + 2 * j) 1) a3)) 23 y = I 23 y := fun y => mhUI_ne (by omega)
    refine sp_X7_put hR2.1.1.1 hR2.2.1.1 (fun gx => absurd g gx) (fun _ gx => absurd (by rw [e22, e23, p1]; exact gb) gx) (fun _ _ => ?_)
    rw [e22, q.1, mh_e60]
    exact pr_go h2 rfl ⟨nh, wd, hg, aH, kd, sm, so2, ln2, cl2, nr, aR, rp, np, pf, nw, aW, wk, tr, _, hC3, hR3, hV, hq3⟩
set_option maxHeartbeats 4000000 in
set_option maxRecDepth 100000 in
theorem pr_copy {l : Launch} {K : mhX} {S : List mhS} {F : mhF} {I : mhI} {J : mhJ} {P : mhP} {Φ : mhQ} {Ψ : Int32 → mhQ} {a1 a2 a3 a4 a5 : Int32} (h : mhIv S F I P) (h1 : ∀ (x : Int32) (S : List mhS) (F : mhF) (I : mhI) (J : mhJ) (P : mhP), mhKX7 S → mhOk l K mX7_copy [.ref 21, .int a1, .int a2, .int a3, .int a4, .int a5] S F I J P (Ψ x) → Φ (some (.int x)) S F I J P) (h2 : ∀ (x : Int32) (S : List mhS) (F : mhF) (I : mhI) (J : mhJ) (P : mhP), mhIv S F I P → Ψ x (some (.int x)) S F I J P) : mhOk l K mX6_copy [.ref 0, .int a1, .int a2, .int a3, .int a4, .int a5] S F I J P Φ := by
  obtain ⟨nh, wd, hg, aH, kd, sm, so, ln, cl, nr, aR, rp, np, pf, nw, aW, wk, tr, fa, hC, hR, hV, hq⟩ := h
  refine sp_X6_copy hC.2.1.1.1 hC.2.2.1.1 (fun g => ?_) (fun j jb hj hjb ek ekb g gb hco => ?_) (fun j jb hj hjb ek ekb g gb hco => ?_)
  · refine h1 _ _ _ _ _ _ hR.1.1.1 ?_
    obtain ⟨hC, hR⟩ := iv_f12 0 hC hR
    refine sp_X7_copy hR.1.1.1 hR.2.1.1 (fun _ => ?_) (fun gx gy _ => absurd ⟨gx, gy⟩ g) (fun a b x y z _ _ _ _ _ _ _ _ _ _ gx gy _ => absurd ⟨gx, gy⟩ g)
    obtain ⟨hC, hR⟩ := iv_f0 0 hC hR
    exact pr_go h2 rfl ⟨_, _, _, _, _, _, _, _, _, _, _, _, _, _, _, _, _, _, _, hC, hR, hV, hq⟩
  · subst ek
    subst ekb
    have p := iv_co hC hR hj hjb (i := a2) (j := a4) (n := a5)
    refine h1 _ _ _ _ _ _ hR.1.1.1 ?_
    obtain ⟨hC, hR⟩ := iv_f12 (mhCoF (F (13 + 2 * j) 1) (F (13 + 2 * j) 2) (F (13 + 2 * jb) 1) (F (13 + 2 * jb) 2) a2 a4 a5) hC hR
    refine sp_X7_copy hR.1.1.1 hR.2.1.1 (fun gx => absurd ⟨g, gb⟩ gx) (fun _ _ _ => ?_) (fun a b x y z _ _ _ _ _ _ _ _ _ _ _ _ gx => absurd (p ▸ gx) hco)
    unfold mhCoR
    rw [p]
    obtain ⟨hC, hR⟩ := iv_f0 (mhCoF (F (13 + 2 * j) 1) (F (13 + 2 * j) 2) (F (13 + 2 * jb) 1) (F (13 + 2 * jb) 2) a2 a4 a5) hC hR
    exact pr_go h2 rfl ⟨_, _, _, _, _, _, _, _, _, _, _, _, _, _, _, _, _, _, _, hC, hR, hV, hq⟩
  · subst ek
    subst ekb
    have p := iv_co hC hR hj hjb (i := a2) (j := a4) (n := a5)
    have hb := (hC.2.2.1.1 j hj).2.2
    have hb2 := (hC.2.2.1.1 jb hjb).2.2
    have hco2 : ¬ F (13 + 2 * j) 1 = -9 ∧ ¬ a5 < 0 ∧ (0 ≤ a2 ∧ a2 ≤ F (13 + 2 * j) 2 ∧ a5 ≤ F (13 + 2 * j) 2 - a2) ∧ (0 ≤ a4 ∧ a4 ≤ F (13 + 2 * jb) 2 ∧ a5 ≤ F (13 + 2 * jb) 2 - a4) := by unfold mhCoF at hco; grind
    obtain ⟨x, hx, rfl⟩ : ∃ x, x < 2 ^ 31 ∧ a2 = nI x := iv_pos hco2.2.2.1.1
    obtain ⟨y, hy, rfl⟩ : ∃ x, x < 2 ^ 31 ∧ a4 = nI x := iv_pos hco2.2.2.2.1
    obtain ⟨z, hz, rfl⟩ : ∃ x, x < 2 ^ 31 ∧ a5 = nI x := iv_pos (by have := hco2.2.1; grind)
    have b1 := iv_b60 hx hz hb.2 hco2.2.2.1
    have b2 := iv_b60 hy hz hb2.2 hco2.2.2.2
    rw [iv_clamp hx, iv_clamp hy, iv_clamp hz]
    refine h1 _ _ _ _ _ _ hR.1.1.1 ?_
    obtain ⟨hR2, so2, ln2, cl2, hC3, hR3, hq3⟩ := iv_copy hj hjb b1 b2 hC hR hco2.1
    have e22 : ∀ t, (mhCp I (13 + 2 * j + 1) x (13 + 2 * jb + 1) y z) 22 t = I 22 t := fun t => mhCp_ne (by omega)
    have e23 : ∀ t, (mhCp I (13 + 2 * j + 1) x (13 + 2 * jb + 1) y z) 23 t = I 23 t := fun t => mhCp_ne (by omega)
    refine sp_X7_copy hR2.1.1.1 hR2.2.1.1 (fun gx => absurd ⟨g, gb⟩ gx) (fun _ _ gx => absurd (by rw [e22, e22, e23, e23, p]; exact hco) gx) (fun a b xx yy zz ha hbb hxx hyy hzz ea eb ex ey ez _ _ _ => ?_)
    obtain rfl := iv_s hj ha rfl ea
    obtain rfl := iv_s hjb hbb rfl eb
    obtain rfl := nI_iv ex hx hxx
    obtain rfl := nI_iv ey hy hyy
    obtain rfl := nI_iv ez hz hzz
    exact pr_go h2 rfl ⟨nh, wd, hg, aH, kd, sm, so2, ln2, cl2, nr, aR, rp, np, pf, nw, aW, wk, tr, _, hC3, hR3, hV, hq3⟩
