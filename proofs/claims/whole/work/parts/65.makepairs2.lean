/-! photograph, report: what both sides do -/
section MHI8
variable {S S2 : List mhS} {F F2 : mhF} {I I2 : mhI} {P P2 : mhP} {nh nr np nw : Nat} {wd hg aH aR aW : Nat → Nat} {kd sm cl : Nat → Nat → Int32} {so ln : Nat → Int32} {rp : mhRp} {pf : Nat → Int32} {wk : Nat → mhWk} {tr fa : Int32} {fb : Int32}
theorem iv_phC {m : Nat} (hm : m ≤ 6) (hI : ∀ b y, b ≠ 5 → I2 b y = I b y) (hC : mhCI S F I P nh wd hg aH kd sm so ln cl nr aR rp np pf nw aW wk tr fa) (hR : mhRI S F I nh wd hg kd sm so ln cl nr rp np pf nw wk tr fb) : mhCI S (mhUF (mhUF F 0 12 0) 0 10 (nI m)) I2 P nh wd hg aH kd sm so ln cl nr aR rp m (fun x => I2 5 (nI x)) nw aW wk tr 0 ∧ mhRI S (mhUF (mhUF F 0 12 0) 0 10 (nI m)) I2 nh wd hg kd sm so ln cl nr rp np pf nw wk tr fb := by
  obtain ⟨g, a, b, c, d, e, x, t, f⟩ := hC
  have La := fun j (hj : j < nh) => a.lt hj
  have Lc := fun k (hk : k < nr) => c.lt hk
  have Le := fun v (hv : v < nw) => e.lt hv
  have fo : ∀ b k, ¬ (b = 0 ∧ (k = 10 ∨ k = 12)) → (mhUF (mhUF F 0 12 0) 0 10 (nI m)) b k = F b k := fun b k q => by rw [mhUF_nk (by omega), mhUF_nk (by omega)]
  exact ⟨⟨g, a.go exS.rfl' (fo _ _ (by omega)) (fun j hj k hk => fo _ _ (by have := La j hj; omega)) (fun j hj t t1 t2 t3 y => hI _ _ (by have := La j hj; omega)) (fun _ _ => rfl), b.go exS.rfl' (fun b k _ _ => fo _ _ (by omega)) (fun b q1 q2 y => hI _ _ (by omega)) (fun _ => rfl), c.go exS.rfl' (fo _ _ (by omega)) (fun k hk t ht => fo _ _ (by have := Lc k hk; omega)) (fun _ _ => rfl), ⟨hm, mhUF_at, fun _ _ => rfl⟩, e.go exS.rfl' (fo _ _ (by omega)) (fun v hv k => fo _ _ (by have := Le v hv; omega)) (fun v hv y => hI _ _ (by have := Le v hv; omega)) (fun _ _ => rfl), x, (fo _ _ (by omega)).trans t, by rw [mhUF_nk (by omega), mhUF_at]⟩, hR.go exS.rfl' (fun k h1 h2 h3 => fo _ _ (by omega)) (fun b y h1 h2 h3 => hI _ _ (by omega)) ((fo _ _ (by omega)).trans hR.efa)⟩
theorem iv_phR {m np2 : Nat} {pf2 : Nat → Int32} (hm : m ≤ 6) (hI : ∀ b y, b ≠ 37 → I2 b y = I b y) (hp : ∀ x, x < 30 → I2 37 (nI x) = pf2 x) (hC : mhCI S F I P nh wd hg aH kd sm so ln cl nr aR rp np2 pf2 nw aW wk tr fa) (hR : mhRI S F I nh wd hg kd sm so ln cl nr rp np pf nw wk tr fb) : mhCI S (mhUF (mhUF F 21 0 0) 21 26 (nI m)) I2 P nh wd hg aH kd sm so ln cl nr aR rp np2 pf2 nw aW wk tr fa ∧ mhRI S (mhUF (mhUF F 21 0 0) 21 26 (nI m)) I2 nh wd hg kd sm so ln cl nr rp m pf2 nw wk tr 0 := by
  have fo : ∀ b k, ¬ (b = 21 ∧ (k = 0 ∨ k = 26)) → (mhUF (mhUF F 21 0 0) 21 26 (nI m)) b k = F b k := fun b k q => by rw [mhUF_nk (by omega), mhUF_nk (by omega)]
  refine ⟨hC.go (fun b k q1 q2 q3 q4 q5 => fo _ _ (by omega)) (fun b y q1 q2 q3 q4 q5 q6 q7 => hI _ _ (by omega)) ((fo _ _ (by omega)).trans hC.efa), ?_⟩
  obtain ⟨a, b, c, d, e, t, f⟩ := hR
  exact ⟨a.go exS.rfl' (fo _ _ (by omega)) (fun b h1 h2 y => hI _ _ (by omega)), b.go (fun b h1 h2 y => hI _ _ (by omega)), c.go (fo _ _ (by omega)) (fun b h1 h2 y => hI _ _ (by omega)), ⟨hm, mhUF_at, hp⟩, e.go (fo _ _ (by omega)) (fun b h1 h2 y => hI _ _ (by omega)), (fo _ _ (by omega)).trans t, by rw [mhUF_nk (by omega), mhUF_at]⟩
theorem iv_vph {g : Nat → Int32} {nn ii j : Nat} {n : Int32} (en : n = nI nn) (h30 : nn ≤ 30) (hp : phOk (cl j) ii n) (hw : ∀ x, x < 30 → g x = if x < nn then cl j (ii + x) else pf x) : vPh (nn / 5) g := by
  obtain ⟨m, em, m5, m30, mm, hm⟩ := hp
  obtain rfl : nn = m := nI_iv (en.symm.trans em) (by omega) (by omega)
  intro t ht
  rw [hw _ (by omega), hw _ (by omega), if_pos (by omega), if_pos (by omega)]
  exact hm t (by omega)
theorem iv_rpC {j r : Nat} {a1 a2 a3 a4 a5 : Int32} (hC : mhCI S F I P nh wd hg aH kd sm so ln cl nr aR rp np pf nw aW wk tr fa) (hR : mhRI S F I nh wd hg kd sm so ln cl nr rp np pf nw wk tr fb) (hlt : nr < 12) (ex : a1 = nI j) (ey : a2 = nI r) (eS : S2 = S ++ [.inr (2, mhRX2 S.length)]) (eF : ∀ c k, c < S.length → ¬ (c = 0 ∧ k = 8) → F2 c k = F c k) (e8 : F2 0 8 = nI (nr + 1)) (f0 : F2 S.length 0 = a1) (f1 : F2 S.length 1 = a2) (f2 : F2 S.length 2 = a3) (f3 : F2 S.length 3 = a4) (f4 : F2 S.length 4 = a5) : mhCI S2 F2 I (mhUP P 3 (nI nr) (some S.length)) nh wd hg aH kd sm so ln cl (nr + 1) (fun k => if k = nr then S.length else aR k) (fun k => if k = nr then (j, r, a3, a4, a5) else rp k) np pf nw aW wk tr fa ∧ mhRI S2 F2 I nh wd hg kd sm so ln cl nr rp np pf nw wk tr fb := by
  have h52 : 51 < S.length := exS.lt (shX7_30 hR.1.1.1)
  have hs : exS S S2 := by rw [eS]; exact exS.app
  obtain ⟨g, a, b, c, d, e, x, t, f⟩ := hC
  have La := fun j (hj : j < nh) => a.lt hj
  have Lc := fun k (hk : k < nr) => c.lt hk
  have Le := fun v (hv : v < nw) => e.lt hv
  have pn : ∀ b y, b ≠ 3 → (mhUP P 3 (nI nr) (some S.length)) b y = P b y := fun b y q => if_neg fun z => q z.1
  refine ⟨⟨⟨g.1.ex hs, g.2.ex hs⟩, a.go hs (eF _ _ (by omega) (by omega)) (fun j hj k hk => eF _ _ (by have := La j hj; omega) (by have := La j hj; omega)) (fun _ _ _ _ _ _ _ => rfl) (fun _ _ => pn _ _ (by omega)), b.go hs (fun b k _ _ => eF _ _ (by omega) (by omega)) (fun _ _ _ _ => rfl) (fun _ => pn _ _ (by omega)), ⟨by omega, e8, fun k hk => ?_⟩, d.go (eF _ _ (by omega) (by omega)) (fun _ => rfl), e.go hs (eF _ _ (by omega) (by omega)) (fun v hv k => eF _ _ (by have := Le v hv; omega) (by have := Le v hv; omega)) (fun _ _ _ => rfl) (fun _ _ => pn _ _ (by omega)), ⟨x.1, fun k v hk hv => ?_, fun k j hk hj => ?_⟩, (eF _ _ (by omega) (by omega)).trans t, (eF _ _ (by omega) (by omega)).trans f⟩, hR.go hs (fun k h1 h2 h3 => eF _ _ (by omega) (by omega)) (fun _ _ _ _ _ => rfl) ((eF _ _ (by omega) (by omega)).trans hR.efa)⟩
  · dsimp only
    by_cases q : k = nr
    · subst q
      rw [if_pos rfl, if_pos rfl]
      refine ⟨if_pos ⟨rfl, rfl⟩, ?_, by omega, f0.trans ex, f1.trans ey, f2, f3, f4⟩
      show S2[S.length]? = _
      rw [eS, List.getElem?_append_right (Nat.le_refl _), Nat.sub_self]; rfl
    · rw [if_neg q, if_neg q]
      have hk2 : k < nr := by omega
      have lk := Lc k hk2
      obtain ⟨h1, h2, h3, h4, h5, h6, h7, h8⟩ := c.2.2 k hk2
      refine ⟨(if_neg fun z => q (nI_iv z.2 (by omega) (by omega))).trans h1, h2.ex hs, h3, ?_, ?_, ?_, ?_, ?_⟩
      · rw [eF _ _ lk.2 (by omega)]; exact h4
      · rw [eF _ _ lk.2 (by omega)]; exact h5
      · rw [eF _ _ lk.2 (by omega)]; exact h6
      · rw [eF _ _ lk.2 (by omega)]; exact h7
      · rw [eF _ _ lk.2 (by omega)]; exact h8
  · dsimp only
    have := Le v hv
    by_cases q : k = nr
    · rw [if_pos q]; omega
    · rw [if_neg q]; exact x.2.1 k v (by omega) hv
  · dsimp only
    have := La j hj
    by_cases q : k = nr
    · rw [if_pos q]; omega
    · rw [if_neg q]; exact x.2.2 k j (by omega) hj
theorem iv_rpR {j r nr2 : Nat} {aR2 : Nat → Nat} {rp2 : mhRp} {a1 a2 a3 a4 a5 : Int32} (hlt : nr < 12) (ex : a1 = nI j) (ey : a2 = nI r) (eF : ∀ c k, ¬ (c = 21 ∧ k = 20) → F2 c k = F c k) (e20 : F2 21 20 = nI (nr + 1)) (eI : ∀ c y, ¬ (32 ≤ c ∧ c ≤ 36 ∧ y = nI nr) → I2 c y = I c y) (i0 : I2 32 (nI nr) = a1) (i1 : I2 33 (nI nr) = a2) (i2 : I2 34 (nI nr) = a3) (i3 : I2 35 (nI nr) = a4) (i4 : I2 36 (nI nr) = a5) (hC : mhCI S F I P nh wd hg aH kd sm so ln cl nr2 aR2 rp2 np pf nw aW wk tr fa) (hR : mhRI S F I nh wd hg kd sm so ln cl nr rp np pf nw wk tr fb) : mhCI S F2 I2 P nh wd hg aH kd sm so ln cl nr2 aR2 rp2 np pf nw aW wk tr fa ∧ mhRI S F2 I2 nh wd hg kd sm so ln cl (nr + 1) (fun k => if k = nr then (j, r, a3, a4, a5) else rp k) np pf nw wk tr fb := by
  refine ⟨hC.go (fun b k q1 q2 q3 q4 q5 => eF _ _ (by omega)) (fun b y q1 q2 q3 q4 q5 q6 q7 => eI _ _ (by omega)) ((eF _ _ (by omega)).trans hC.efa), ?_⟩
  obtain ⟨a, b, c, d, e, t, f⟩ := hR
  refine ⟨a.go exS.rfl' (eF _ _ (by omega)) (fun b h1 h2 y => eI _ _ (by omega)), b.go (fun b h1 h2 y => eI _ _ (by omega)), ⟨by omega, e20, fun k hk => ?_⟩, d.go (eF _ _ (by omega)) (fun y => eI _ _ (by omega)), e.go (eF _ _ (by omega)) (fun b h1 h2 y => eI _ _ (by omega)), (eF _ _ (by omega)).trans t, (eF _ _ (by omega)).trans f⟩
  dsimp only
  by_cases q : k = nr
  · subst q
    rw [if_pos rfl]
    exact ⟨i0.trans ex, i1.trans ey, i2, i3, i4⟩
  · rw [if_neg q]
    have hne : ¬ nI k = nI nr := fun z => q (nI_iv z (by omega) (by omega))
    obtain ⟨h4, h5, h6, h7, h8⟩ := c.2.2 k (by omega)
    exact ⟨(eI _ _ (fun z => hne z.2.2)).trans h4, (eI _ _ (fun z => hne z.2.2)).trans h5, (eI _ _ (fun z => hne z.2.2)).trans h6, (eI _ _ (fun z => hne z.2.2)).trans h7, (eI _ _ (fun z => hne z.2.2)).trans h8⟩
theorem iv_vrp {j r : Nat} {a3 a4 a5 : Int32} (h : vRp nh wd hg nr rp) (hj : j < nh) (hr : r < gRooms (wd j) (hg j)) (ht : mhTurn a3 a4) : vRp nh wd hg (nr + 1) (fun k => if k = nr then (j, r, a3, a4, a5) else rp k) := by
  intro k hk
  dsimp only
  by_cases q : k = nr
  · rw [if_pos q]; exact ⟨hj, hr, ht⟩
  · rw [if_neg q]; exact h k (by omega)
end MHI8
set_option maxHeartbeats 4000000 in
set_option maxRecDepth 100000 in
theorem pr_photograph {l : Launch} {K : mhX} {S : List mhS} {F : mhF} {I : mhI} {J : mhJ} {P : mhP} {Φ : mhQ} {Ψ : Int32 → mhQ} {a1 a2 a3 a4 : Int32} (h : mhIv S F I P) (h1 : ∀ (x : Int32) (S : List mhS) (F : mhF) (I : mhI) (J : mhJ) (P : mhP), mhKX7 S → mhOk l K mX7_photograph [.ref 21, .int a1, .int a2, .int a3, .int a4] S F I J P (Ψ x) → Φ (some (.int x)) S F I J P) (h2 : ∀ (x : Int32) (S : List mhS) (F : mhF) (I : mhI) (J : mhJ) (P : mhP), mhIv S F I P → Ψ x (some (.int x)) S F I J P) : mhOk l K mX6_photograph [.ref 0, .int a1, .int a2, .int a3, .int a4] S F I J P Φ := by
  obtain ⟨nh, wd, hg, aH, kd, sm, so, ln, cl, nr, aR, rp, np, pf, nw, aW, wk, tr, fa, hC, hR, hV, hq⟩ := h
  refine sp_X6_photograph hC.2.1.1.1 hC.2.2.1.1 hC.2.2.1.ecl (fun g => ?_) (fun g gb => ?_) (fun js hjs ek gs hag => ?_) (fun js ii hjs ek gs hag ei hp => ?_) (fun js ii nn hjs ek gs hag ei en hp hn30 I2 hw hI => ?_)
  · skip
    obtain ⟨hC, hR⟩ := iv_f12 0 hC hR
    refine h1 _ _ _ _ _ _ hR.1.1.1 ?_
    refine sp_X7_photograph hR.1.1.1 hR.2.1.1 hR.2.1.ecl (fun g' => ?_) (fun g' gb' => ?_) (fun js' hjs' ek' gs' hag' => ?_) (fun js' ii' hjs' ek' gs' hag' ei' hp' => ?_) (fun js' ii' nn' hjs' ek' gs' hag' ei' en' hp' hn30' I2' hw' hI' => ?_)
    · skip
      obtain ⟨hC, hR⟩ := iv_f0 0 hC hR
      exact pr_go h2 (rfl) ⟨_, _, _, _, _, _, _, _, _, _, _, _, _, _, _, _, _, _, _, hC, hR, hV, hq⟩
    · skip
      exact absurd g' g
    · skip
      rw [hR.2.1.ag hjs'] at hag' ⊢
      exact absurd (iv_sc hjs' ek') g
    · skip
      rw [hR.2.1.ag hjs'] at hag'
      exact absurd (iv_sc hjs' ek') g
    · skip
      rw [hR.2.1.ag hjs'] at hag'
      exact absurd (iv_sc hjs' ek') g
  · skip
    obtain ⟨hC, hR⟩ := iv_f12 0 hC hR
    refine h1 _ _ _ _ _ _ hR.1.1.1 ?_
    refine sp_X7_photograph hR.1.1.1 hR.2.1.1 hR.2.1.ecl (fun g' => ?_) (fun g' gb' => ?_) (fun js' hjs' ek' gs' hag' => ?_) (fun js' ii' hjs' ek' gs' hag' ei' hp' => ?_) (fun js' ii' nn' hjs' ek' gs' hag' ei' en' hp' hn30' I2' hw' hI' => ?_)
    · skip
      exact absurd g g'
    · skip
      obtain ⟨hC, hR⟩ := iv_f0 0 hC hR
      exact pr_go h2 (rfl) ⟨_, _, _, _, _, _, _, _, _, _, _, _, _, _, _, _, _, _, _, hC, hR, hV, hq⟩
    · skip
      rw [hR.2.1.ag hjs'] at hag' ⊢
      exact absurd gs' gb
    · skip
      rw [hR.2.1.ag hjs'] at hag'
      exact absurd gs' gb
    · skip
      rw [hR.2.1.ag hjs'] at hag'
      exact absurd gs' gb
  · skip
    rw [hC.2.2.1.ag hjs] at hag ⊢
    obtain ⟨hC, hR⟩ := iv_f12 (mhAg (so js) (ln js) a2 a3 a4) hC hR
    refine h1 _ _ _ _ _ _ hR.1.1.1 ?_
    refine sp_X7_photograph hR.1.1.1 hR.2.1.1 hR.2.1.ecl (fun g' => ?_) (fun g' gb' => ?_) (fun js' hjs' ek' gs' hag' => ?_) (fun js' ii' hjs' ek' gs' hag' ei' hp' => ?_) (fun js' ii' nn' hjs' ek' gs' hag' ei' en' hp' hn30' I2' hw' hI' => ?_)
    · skip
      exact absurd (iv_sc hjs ek) g'
    · skip
      exact absurd gs gb'
    · skip
      obtain rfl := iv_s hjs hjs' ek ek'
      rw [hR.2.1.ag hjs'] at hag' ⊢
      obtain ⟨hC, hR⟩ := iv_f0 (mhAg (so js) (ln js) a2 a3 a4) hC hR
      exact pr_go h2 (rfl) ⟨_, _, _, _, _, _, _, _, _, _, _, _, _, _, _, _, _, _, _, hC, hR, hV, hq⟩
    · skip
      obtain rfl := iv_s hjs hjs' ek ek'
      rw [hR.2.1.ag hjs'] at hag'
      exact absurd hag' hag
    · skip
      obtain rfl := iv_s hjs hjs' ek ek'
      rw [hR.2.1.ag hjs'] at hag'
      exact absurd hag' hag
  · skip
    rw [hC.2.2.1.ag hjs] at hag
    obtain ⟨hC, hR⟩ := iv_f12 0 hC hR
    refine h1 _ _ _ _ _ _ hR.1.1.1 ?_
    refine sp_X7_photograph hR.1.1.1 hR.2.1.1 hR.2.1.ecl (fun g' => ?_) (fun g' gb' => ?_) (fun js' hjs' ek' gs' hag' => ?_) (fun js' ii' hjs' ek' gs' hag' ei' hp' => ?_) (fun js' ii' nn' hjs' ek' gs' hag' ei' en' hp' hn30' I2' hw' hI' => ?_)
    · skip
      exact absurd (iv_sc hjs ek) g'
    · skip
      exact absurd gs gb'
    · skip
      obtain rfl := iv_s hjs hjs' ek ek'
      rw [hR.2.1.ag hjs'] at hag' ⊢
      exact absurd hag hag'
    · skip
      obtain rfl := iv_s hjs hjs' ek ek'
      rw [phOk_cl hq ei ei'] at hp'
      rw [hR.2.1.ag hjs'] at hag'
      obtain ⟨hC, hR⟩ := iv_f0 0 hC hR
      exact pr_go h2 (rfl) ⟨_, _, _, _, _, _, _, _, _, _, _, _, _, _, _, _, _, _, _, hC, hR, hV, hq⟩
    · skip
      obtain rfl := iv_s hjs hjs' ek ek'
      rw [phOk_cl hq ei ei'] at hp'
      rw [hR.2.1.ag hjs'] at hag'
      exact absurd hp' hp
  · skip
    rw [hC.2.2.1.ag hjs] at hag
    have hC0 := hC
    obtain ⟨hC, hR⟩ := iv_phC (m := nn / 5) (by omega) hI hC hR
    refine h1 _ _ _ _ _ _ hR.1.1.1 ?_
    refine sp_X7_photograph hR.1.1.1 hR.2.1.1 hR.2.1.ecl (fun g' => ?_) (fun g' gb' => ?_) (fun js' hjs' ek' gs' hag' => ?_) (fun js' ii' hjs' ek' gs' hag' ei' hp' => ?_) (fun js' ii' nn' hjs' ek' gs' hag' ei' en' hp' hn30' I2' hw' hI' => ?_)
    · skip
      exact absurd (iv_sc hjs ek) g'
    · skip
      exact absurd gs gb'
    · skip
      obtain rfl := iv_s hjs hjs' ek ek'
      rw [hR.2.1.ag hjs'] at hag' ⊢
      exact absurd hag hag'
    · skip
      obtain rfl := iv_s hjs hjs' ek ek'
      rw [phOk_cl hq ei ei'] at hp'
      rw [hR.2.1.ag hjs'] at hag'
      exact absurd hp hp'
    · skip
      obtain rfl := iv_s hjs hjs' ek ek'
      obtain rfl := iv_m (by omega) (by omega) en en'
      rw [phOk_cl hq ei ei'] at hp'
      rw [hR.2.1.ag hjs'] at hag'
      have e5 : ∀ x, x < 30 → I2' 37 (nI x) = I2 5 (nI x) := fun x hx => by
        rw [hw' x hx, hw x hx]
        by_cases c : x < nn
        · rw [if_pos c, if_pos c]; exact iv_cl hq ei' ei x
        · rw [if_neg c, if_neg c]; exact (hR.2.2.2.1.2.2 x hx).trans (hC0.2.2.2.2.1.2.2 x hx).symm
      obtain ⟨hC, hR⟩ := iv_phR (m := nn / 5) (by omega) hI' e5 hC hR
      exact pr_go h2 rfl ⟨_, _, _, _, _, _, _, _, _, _, _, _, _, _, _, _, _, _, _, hC, hR, ⟨hV.1, iv_vph en hn30 hp hw, hV.2.2⟩, hq⟩
set_option maxHeartbeats 4000000 in
set_option maxRecDepth 100000 in
theorem pr_report {l : Launch} {K : mhX} {S : List mhS} {F : mhF} {I : mhI} {J : mhJ} {P : mhP} {Φ : mhQ} {Ψ : Int32 → mhQ} {a1 a2 a3 a4 a5 : Int32} (hz : a5 = 0 ∨ a5 = 1) (h : mhIv S F I P) (h1 : ∀ (x : Int32) (S : List mhS) (F : mhF) (I : mhI) (J : mhJ) (P : mhP), mhKX7 S → mhOk l K mX7_report [.ref 21, .int a1, .int a2, .int a3, .int a4, .int a5] S F I J P (Ψ x) → Φ (some (.int x)) S F I J P) (h2 : ∀ (x : Int32) (S : List mhS) (F : mhF) (I : mhI) (J : mhJ) (P : mhP), mhIv S F I P → Ψ x (some (.int x)) S F I J P) : mhOk l K mX6_report [.ref 0, .int a1, .int a2, .int a3, .int a4, .int a5] S F I J P Φ := by
  obtain ⟨nh, wd, hg, aH, kd, sm, so, ln, cl, nr, aR, rp, np, pf, nw, aW, wk, tr, fa, hC, hR, hV, hq⟩ := h
  refine sp_X6_report hC.2.1.1 hC.2.2.2.1.1 hC.2.2.2.1.2.1 hz (fun g => ?_) (fun g gb => ?_) (fun g ga h12 => ?_) (fun j r hj hr ex ey ga hlt S2 F2 eS eF e8 f0 f1 f2 f3 f4 => ?_)
  · skip
    refine h1 _ _ _ _ _ _ hR.1.1.1 ?_
    refine sp_X7_report hR.1.1 hR.2.2.1.1 hR.2.2.1.2.1 hz (fun g' => ?_) (fun g' gb' => ?_) (fun g' ga' h12' => ?_) (fun j' r' hj' hr' ex' ey' ga' hlt' F2' I2' eF' e20' eI' i0' i1' i2' i3' i4' => ?_)
    · skip
      exact pr_go h2 (rfl) ⟨_, _, _, _, _, _, _, _, _, _, _, _, _, _, _, _, _, _, _, hC, hR, hV, hq⟩
    · skip
      exact absurd g' g
    · skip
      exact absurd g' g
    · skip
      exact absurd ⟨j', hj', ex', r', hr', ey'⟩ g
  · skip
    refine h1 _ _ _ _ _ _ hR.1.1.1 ?_
    refine sp_X7_report hR.1.1 hR.2.2.1.1 hR.2.2.1.2.1 hz (fun g' => ?_) (fun g' gb' => ?_) (fun g' ga' h12' => ?_) (fun j' r' hj' hr' ex' ey' ga' hlt' F2' I2' eF' e20' eI' i0' i1' i2' i3' i4' => ?_)
    · skip
      exact absurd g g'
    · skip
      exact pr_go h2 (rfl) ⟨_, _, _, _, _, _, _, _, _, _, _, _, _, _, _, _, _, _, _, hC, hR, hV, hq⟩
    · skip
      exact absurd ga' gb
    · skip
      exact absurd ga' gb
  · skip
    refine h1 _ _ _ _ _ _ hR.1.1.1 ?_
    refine sp_X7_report hR.1.1 hR.2.2.1.1 hR.2.2.1.2.1 hz (fun g' => ?_) (fun g' gb' => ?_) (fun g' ga' h12' => ?_) (fun j' r' hj' hr' ex' ey' ga' hlt' F2' I2' eF' e20' eI' i0' i1' i2' i3' i4' => ?_)
    · skip
      exact absurd g g'
    · skip
      exact absurd ga gb'
    · skip
      exact pr_go h2 (rfl) ⟨_, _, _, _, _, _, _, _, _, _, _, _, _, _, _, _, _, _, _, hC, hR, hV, hq⟩
    · skip
      exact absurd hlt' (show ¬ nr < 12 by omega)
  · skip
    obtain ⟨hC, hR⟩ := iv_rpC hC hR hlt ex ey eS eF e8 f0 f1 f2 f3 f4
    refine h1 _ _ _ _ _ _ hR.1.1.1 ?_
    refine sp_X7_report hR.1.1 hR.2.2.1.1 hR.2.2.1.2.1 hz (fun g' => ?_) (fun g' gb' => ?_) (fun g' ga' h12' => ?_) (fun j' r' hj' hr' ex' ey' ga' hlt' F2' I2' eF' e20' eI' i0' i1' i2' i3' i4' => ?_)
    · skip
      exact absurd ⟨j, hj, ex, r, hr, ey⟩ g'
    · skip
      exact absurd ga gb'
    · skip
      exact absurd hlt (show ¬ nr < 12 by omega)
    · skip
      obtain rfl := iv_j hC hj hj' ex ex'
      obtain rfl := iv_r hC hj hr hr' ey ey'
      obtain ⟨hC, hR⟩ := iv_rpR hlt ex ey eF' e20' eI' i0' i1' i2' i3' i4' hC hR
      exact pr_go h2 rfl ⟨_, _, _, _, _, _, _, _, _, _, _, _, _, _, _, _, _, _, _, hC, hR, ⟨iv_vrp hV.1 hj hr ga, hV.2.1, hV.2.2⟩, hq⟩
