/-! house: what both sides do -/
section MHI10
variable {S S2 : List mhS} {F F2 : mhF} {I I2 : mhI} {P P2 : mhP} {nh nr np nw : Nat} {wd hg aH aR aW : Nat → Nat} {kd sm cl : Nat → Nat → Int32} {so ln : Nat → Int32} {rp : mhRp} {pf : Nat → Int32} {wk : Nat → mhWk} {tr fa : Int32} {fb : Int32} {w0 h0 : Nat} {k0 : Nat → Int32}
theorem iv_hoC (hC : mhCI S F I P nh wd hg aH kd sm so ln cl nr aR rp np pf nw aW wk tr fa) (hR : mhRI S F I nh wd hg kd sm so ln cl nr rp np pf nw wk tr fb) (hlt : nh < 3) (hs : exS S S2) (hH : mhHs S2 F2 I2 S.length w0 h0) (hP : mhPn I2 S.length w0 h0 k0) (hsm : ∀ y, I2 (S.length + 2) y = 0) (eF : ∀ b x, b < S.length → ¬ (b = 0 ∧ x = 7) → F2 b x = mhUF F 0 12 0 b x) (e7 : F2 0 7 = nI (nh + 1)) (eI : ∀ b y, b < S.length → I2 b y = I b y) : mhCI S2 F2 I2 (mhUP P 2 (nI nh) (some S.length)) (nh + 1) (fun t => if t = nh then w0 else wd t) (fun t => if t = nh then h0 else hg t) (fun t => if t = nh then S.length else aH t) (fun t => if t = nh then k0 else kd t) (fun t => if t = nh then (fun _ => 0) else sm t) so ln cl nr aR rp np pf nw aW wk tr 0 ∧ mhRI S2 F2 I2 nh wd hg kd sm so ln cl nr rp np pf nw wk tr fb := by
  have h52 : 51 < S.length := exS.lt (shX7_30 hR.1.1.1)
  obtain ⟨g, a, b, c, d, e, x, t, f⟩ := hC
  have La := fun j (hj : j < nh) => a.lt hj
  have Lc := fun k (hk : k < nr) => c.lt hk
  have Le := fun v (hv : v < nw) => e.lt hv
  have fo : ∀ b k, b < S.length → ¬ (b = 0 ∧ (k = 7 ∨ k = 12)) → F2 b k = F b k := fun b k q1 q2 => (eF b k q1 (by omega)).trans (mhUF_nk (by omega))
  have pn : ∀ b y, b ≠ 2 → (mhUP P 2 (nI nh) (some S.length)) b y = P b y := fun b y q => if_neg fun z => q z.1
  have old := a.go (F2 := fun b k => if b = 0 ∧ k = 7 then F 0 7 else F2 b k) (P2 := P) hs (if_pos ⟨rfl, rfl⟩) (fun j hj k hk => (if_neg (by have := La j hj; omega)).trans (fo _ _ (by have := La j hj; omega) (by have := La j hj; omega))) (fun j hj t t1 t2 t3 y => eI _ _ (by have := La j hj; omega)) (fun _ _ => rfl)
  refine ⟨⟨⟨g.1.ex hs, g.2.ex hs⟩, ⟨⟨a.1.1.ex hs, by omega, e7, fun j hj => ?_⟩, fun j hj => ?_, fun j hj => ?_, fun j j2 hj hj2 hne => ?_⟩, b.go hs (fun b k _ _ => fo _ _ (by omega) (by omega)) (fun b _ _ y => eI _ _ (by omega)) (fun _ => pn _ _ (by omega)), c.go hs (fo _ _ (by omega) (by omega)) (fun k hk t ht => fo _ _ (by have := Lc k hk; omega) (by have := Lc k hk; omega)) (fun _ _ => pn _ _ (by omega)), d.go (fo _ _ (by omega) (by omega)) (fun y => eI _ _ (by omega)), e.go hs (fo _ _ (by omega) (by omega)) (fun v hv k => fo _ _ (by have := Le v hv; omega) (by have := Le v hv; omega)) (fun v hv y => eI _ _ (by have := Le v hv; omega)) (fun _ _ => pn _ _ (by omega)), ⟨fun v j hv hj => ?_, x.2.1, fun k j hk hj => ?_⟩, (fo _ _ (by omega) (by omega)).trans t, (eF _ _ (by omega) (by omega)).trans mhUF_at⟩, hR.go hs (fun k h1 h2 h3 => fo _ _ (by omega) (by omega)) (fun b y h1 h2 h3 => eI _ _ (by omega)) ((fo _ _ (by omega) (by omega)).trans hR.efa)⟩
  · dsimp only
    by_cases q : j = nh
    · subst q
      rw [if_pos rfl, if_pos rfl, if_pos rfl]
      exact ⟨if_pos ⟨rfl, rfl⟩, hH⟩
    · rw [if_neg q, if_neg q, if_neg q]
      have hj2 : j < nh := by omega
      have lj := La j hj2
      refine ⟨(if_neg fun z => q (nI_iv z.2 (by omega) (by omega))).trans (a.1.2.2.2 j hj2).1, ?_⟩
      obtain ⟨h1, h2, h3, h4, h5, h6, h7⟩ := (old.1.2.2.2 j hj2).2
      have en : ∀ k, (if aH j = 0 ∧ k = 7 then F 0 7 else F2 (aH j) k) = F2 (aH j) k := fun k => if_neg (by omega)
      exact ⟨h1, h2, (en 0).symm.trans h3, (en 1).symm.trans h4, (en 2).symm.trans h5, (en 3).symm.trans h6, h7⟩
  · dsimp only
    by_cases q : j = nh
    · subst q
      rw [if_pos rfl, if_pos rfl, if_pos rfl, if_pos rfl]; exact hP
    · rw [if_neg q, if_neg q, if_neg q, if_neg q]; exact old.2.1 j (by omega)
  · dsimp only
    by_cases q : j = nh
    · subst q
      rw [if_pos rfl, if_pos rfl, if_pos rfl, if_pos rfl]; exact fun k _ => hsm _
    · rw [if_neg q, if_neg q, if_neg q, if_neg q]; exact old.2.2.1 j (by omega)
  · dsimp only
    by_cases q : j = nh
    · by_cases q2 : j2 = nh
      · omega
      · rw [if_pos q, if_neg q2]; have := La j2 (by omega); omega
    · by_cases q2 : j2 = nh
      · rw [if_neg q, if_pos q2]; have := La j (by omega); omega
      · rw [if_neg q, if_neg q2]; exact a.2.2.2 j j2 (by omega) (by omega) hne
  · dsimp only
    have := Le v hv
    by_cases q : j = nh
    · rw [if_pos q]; omega
    · rw [if_neg q]; exact x.1 v j hv (by omega)
  · dsimp only
    have := Lc k hk
    by_cases q : j = nh
    · rw [if_pos q]; omega
    · rw [if_neg q]; exact x.2.2 k j hk (by omega)
theorem iv_hoR {nh2 : Nat} {wd2 hg2 aH2 : Nat → Nat} {kd2 sm2 : Nat → Nat → Int32} (g0 : gOk w0 h0) (hlt : nh < 3) (eF : ∀ b x, ¬ (b = 21 ∧ (10 ≤ x ∧ x < 12 ∨ x = 5)) → F2 b x = mhUF F 21 0 0 b x) (e5 : F2 21 5 = nI (nh + 1)) (i25 : I2 25 (nI nh) = nI w0) (i26 : I2 26 (nI nh) = nI h0) (i27 : ∀ k, k < gSides w0 h0 → I2 27 (nI (50 * nh + k)) = k0 k ∧ I2 28 (nI (50 * nh + k)) = 0) (eI : ∀ b y, ¬ (25 ≤ b ∧ b ≤ 26 ∧ y = nI nh) → ¬ (27 ≤ b ∧ b ≤ 28 ∧ ∃ k, k < 50 ∧ y = nI (50 * nh + k)) → I2 b y = I b y) (hC : mhCI S F I P nh2 wd2 hg2 aH2 kd2 sm2 so ln cl nr aR rp np pf nw aW wk tr fa) (hR : mhRI S F I nh wd hg kd sm so ln cl nr rp np pf nw wk tr fb) : mhCI S F2 I2 P nh2 wd2 hg2 aH2 kd2 sm2 so ln cl nr aR rp np pf nw aW wk tr fa ∧ mhRI S F2 I2 (nh + 1) (fun t => if t = nh then w0 else wd t) (fun t => if t = nh then h0 else hg t) (fun t => if t = nh then k0 else kd t) (fun t => if t = nh then (fun _ => 0) else sm t) so ln cl nr rp np pf nw wk tr 0 := by
  have io : ∀ b y, ¬ (25 ≤ b ∧ b ≤ 28) → I2 b y = I b y := fun b y q => eI _ _ (by omega) (fun z => by omega)
  have fo : ∀ b k, ¬ (b = 21 ∧ (k = 0 ∨ 10 ≤ k ∧ k < 12 ∨ k = 5)) → F2 b k = F b k := fun b k q => (eF b k (by omega)).trans (mhUF_nk (by omega))
  refine ⟨hC.go (fun b k q1 q2 q3 q4 q5 => fo _ _ (by omega)) (fun b y q1 q2 q3 q4 q5 q6 q7 => io _ _ (by omega)) ((fo _ _ (by omega)).trans hC.efa), ?_⟩
  obtain ⟨a, b, c, d, e, t, f⟩ := hR
  refine ⟨⟨⟨a.1.1, by omega, e5, fun j hj => ?_⟩, fun j hj => ?_, fun j hj => ?_⟩, b.go (fun b h1 h2 y => io _ _ (by omega)), c.go (fo _ _ (by omega)) (fun b h1 h2 y => io _ _ (by omega)), d.go (fo _ _ (by omega)) (fun y => io _ _ (by omega)), e.go (fo _ _ (by omega)) (fun b h1 h2 y => io _ _ (by omega)), (fo _ _ (by omega)).trans t, (eF _ _ (by omega)).trans mhUF_at⟩
  · dsimp only
    by_cases q : j = nh
    · subst q
      rw [if_pos rfl, if_pos rfl]; exact ⟨hlt, g0, i25, i26⟩
    · rw [if_neg q, if_neg q]
      have hne : ¬ nI j = nI nh := fun z => q (nI_iv z (by omega) (by omega))
      obtain ⟨h1, h2, h3, h4⟩ := a.1.2.2.2 j (by omega)
      exact ⟨h1, h2, (eI _ _ (fun z => hne z.2.2) (fun z => by omega)).trans h3, (eI _ _ (fun z => hne z.2.2) (fun z => by omega)).trans h4⟩
  · dsimp only
    by_cases q : j = nh
    · subst q
      rw [if_pos rfl, if_pos rfl, if_pos rfl]; exact fun k hk => (i27 k hk).1
    · rw [if_neg q, if_neg q, if_neg q]
      have hb := gBd (a.1.2.2.2 j (by omega)).2.1
      exact fun k hk => (eI _ _ (by omega) (fun z => by obtain ⟨_, _, s, hs, z2⟩ := z; have := nI_iv z2 (by omega) (by omega); omega)).trans (a.2.1 j (by omega) k hk)
  · dsimp only
    by_cases q : j = nh
    · subst q
      rw [if_pos rfl, if_pos rfl, if_pos rfl]; exact fun k hk => (i27 k hk).2
    · rw [if_neg q, if_neg q, if_neg q]
      have hb := gBd (a.1.2.2.2 j (by omega)).2.1
      exact fun k hk => (eI _ _ (by omega) (fun z => by obtain ⟨_, _, s, hs, z2⟩ := z; have := nI_iv z2 (by omega) (by omega); omega)).trans (a.2.2 j (by omega) k hk)
theorem iv_vho (h : mhVI nh wd hg nr rp np pf nw wk) : mhVI (nh + 1) (fun t => if t = nh then w0 else wd t) (fun t => if t = nh then h0 else hg t) nr rp np pf nw wk := by
  refine ⟨fun k hk => ?_, h.2.1, fun v hv => ?_⟩
  · obtain ⟨h1, h2, h3⟩ := h.1 k hk
    have q : ¬ (rp k).1 = nh := by omega
    refine ⟨by omega, ?_, h3⟩
    dsimp only; rw [if_neg q, if_neg q]; exact h2
  · obtain ⟨h1, h2, h3, h4⟩ := h.2.2 v hv
    have q : ¬ (wk v).2.1 = nh := by omega
    refine ⟨h1, by omega, h3, ?_⟩
    dsimp only; rw [if_neg q, if_neg q]; exact h4
end MHI10
set_option maxHeartbeats 4000000 in
set_option maxRecDepth 100000 in
theorem pr_house {l : Launch} {K : mhX} {S : List mhS} {F : mhF} {I : mhI} {J : mhJ} {P : mhP} {Φ : mhQ} {Ψ : Int32 → mhQ} {a1 a2 a3 a4 : Int32} (h : mhIv S F I P) (h1 : ∀ (x : Int32) (S : List mhS) (F : mhF) (I : mhI) (J : mhJ) (P : mhP), mhKX7 S → mhOk l K mX7_house [.ref 21, .int a1, .int a2, .int a3, .int a4] S F I J P (Ψ x) → Φ (some (.int x)) S F I J P) (h2 : ∀ (x : Int32) (S : List mhS) (F : mhF) (I : mhI) (J : mhJ) (P : mhP), mhIv S F I P → Ψ x (some (.int x)) S F I J P) : mhOk l K mX6_house [.ref 0, .int a1, .int a2, .int a3, .int a4] S F I J P Φ := by
  obtain ⟨nh, wd, hg, aH, kd, sm, so, ln, cl, nr, aR, rp, np, pf, nw, aW, wk, tr, fa, hC, hR, hV, hq⟩ := h
  refine sp_X6_house hC.2.1.1 hC.2.2.1.1 (exS.lt (shX7_30 hR.1.1.1)) hC.2.2.1.ecl (fun g => ?_) (fun g gb => ?_) (fun js hjs ek gs hag => ?_) (fun js ii nn y hjs ek gs hag ei en hb60 hA hy => ?_) (fun js ii nn hjs ek gs hag ei en hb60 hA h3 => ?_) (fun js ii nn hjs ek gs hag ei en hb60 hA hok hlt S2 F2 I2 hs hl hH hP hsm eF e7 eI => ?_)
  · skip
    obtain ⟨hC, hR⟩ := iv_f12 0 hC hR
    refine h1 _ _ _ _ _ _ hR.1.1.1 ?_
    refine sp_X7_house hR.1.1 hR.2.1.1 hR.2.1.ecl (fun g' => ?_) (fun g' gb' => ?_) (fun js' hjs' ek' gs' hag' => ?_) (fun js' ii' nn' y' hjs' ek' gs' hag' ei' en' hb60' hA' hy' F2' hF' => ?_) (fun js' ii' nn' hjs' ek' gs' hag' ei' en' hb60' hA' h3' F2' hF' => ?_) (fun js' ii' nn' hjs' ek' gs' hag' ei' en' hb60' hA' hok' hlt' F2' I2' eF' e5' i25' i26' i27' eI' => ?_)
    · skip
      obtain ⟨hC, hR⟩ := iv_f0 0 hC hR
      exact pr_go h2 (rfl) ⟨_, _, _, _, _, _, _, _, _, _, _, _, _, _, _, _, _, _, _, hC, hR, hV, hq⟩
    · skip
      exact absurd g' g
    · skip
      rw [hR.2.1.ag hjs'] at hag' ⊢
      exact absurd (iv_sc hjs' ek') g
    · skip
      rw [hR.2.1.ag hjs'] at hag'
      exact absurd (iv_sc hjs' ek') g
    · skip
      rw [hR.2.1.ag hjs'] at hag'
      exact absurd (iv_sc hjs' ek') g
    · skip
      rw [hR.2.1.ag hjs'] at hag'
      exact absurd (iv_sc hjs' ek') g
  · skip
    obtain ⟨hC, hR⟩ := iv_f12 0 hC hR
    refine h1 _ _ _ _ _ _ hR.1.1.1 ?_
    refine sp_X7_house hR.1.1 hR.2.1.1 hR.2.1.ecl (fun g' => ?_) (fun g' gb' => ?_) (fun js' hjs' ek' gs' hag' => ?_) (fun js' ii' nn' y' hjs' ek' gs' hag' ei' en' hb60' hA' hy' F2' hF' => ?_) (fun js' ii' nn' hjs' ek' gs' hag' ei' en' hb60' hA' h3' F2' hF' => ?_) (fun js' ii' nn' hjs' ek' gs' hag' ei' en' hb60' hA' hok' hlt' F2' I2' eF' e5' i25' i26' i27' eI' => ?_)
    · skip
      exact absurd g g'
    · skip
      obtain ⟨hC, hR⟩ := iv_f0 0 hC hR
      exact pr_go h2 (rfl) ⟨_, _, _, _, _, _, _, _, _, _, _, _, _, _, _, _, _, _, _, hC, hR, hV, hq⟩
    · skip
      rw [hR.2.1.ag hjs'] at hag' ⊢
      exact absurd gs' gb
    · skip
      rw [hR.2.1.ag hjs'] at hag'
      exact absurd gs' gb
    · skip
      rw [hR.2.1.ag hjs'] at hag'
      exact absurd gs' gb
    · skip
      rw [hR.2.1.ag hjs'] at hag'
      exact absurd gs' gb
  · skip
    rw [hC.2.2.1.ag hjs] at hag ⊢
    obtain ⟨hC, hR⟩ := iv_f12 (mhAg (so js) (ln js) a2 a3 a4) hC hR
    refine h1 _ _ _ _ _ _ hR.1.1.1 ?_
    refine sp_X7_house hR.1.1 hR.2.1.1 hR.2.1.ecl (fun g' => ?_) (fun g' gb' => ?_) (fun js' hjs' ek' gs' hag' => ?_) (fun js' ii' nn' y' hjs' ek' gs' hag' ei' en' hb60' hA' hy' F2' hF' => ?_) (fun js' ii' nn' hjs' ek' gs' hag' ei' en' hb60' hA' h3' F2' hF' => ?_) (fun js' ii' nn' hjs' ek' gs' hag' ei' en' hb60' hA' hok' hlt' F2' I2' eF' e5' i25' i26' i27' eI' => ?_)
    · skip
      exact absurd (iv_sc hjs ek) g'
    · skip
      exact absurd gs gb'
    · skip
      obtain rfl := iv_s hjs hjs' ek ek'
      rw [hR.2.1.ag hjs'] at hag' ⊢
      obtain ⟨hC, hR⟩ := iv_f0 (mhAg (so js) (ln js) a2 a3 a4) hC hR
      exact pr_go h2 (rfl) ⟨_, _, _, _, _, _, _, _, _, _, _, _, _, _, _, _, _, _, _, hC, hR, hV, hq⟩
    · skip
      obtain rfl := iv_s hjs hjs' ek ek'
      rw [hR.2.1.ag hjs'] at hag'
      exact absurd hag' hag
    · skip
      obtain rfl := iv_s hjs hjs' ek ek'
      rw [hR.2.1.ag hjs'] at hag'
      exact absurd hag' hag
    · skip
      obtain rfl := iv_s hjs hjs' ek ek'
      rw [hR.2.1.ag hjs'] at hag'
      exact absurd hag' hag
  · skip
    rw [hC.2.2.1.ag hjs] at hag
    obtain ⟨hC, hR⟩ := iv_f12 0 hC hR
    refine h1 _ _ _ _ _ _ hR.1.1.1 ?_
    refine sp_X7_house hR.1.1 hR.2.1.1 hR.2.1.ecl (fun g' => ?_) (fun g' gb' => ?_) (fun js' hjs' ek' gs' hag' => ?_) (fun js' ii' nn' y' hjs' ek' gs' hag' ei' en' hb60' hA' hy' F2' hF' => ?_) (fun js' ii' nn' hjs' ek' gs' hag' ei' en' hb60' hA' h3' F2' hF' => ?_) (fun js' ii' nn' hjs' ek' gs' hag' ei' en' hb60' hA' hok' hlt' F2' I2' eF' e5' i25' i26' i27' eI' => ?_)
    · skip
      exact absurd (iv_sc hjs ek) g'
    · skip
      exact absurd gs gb'
    · skip
      obtain rfl := iv_s hjs hjs' ek ek'
      rw [hR.2.1.ag hjs'] at hag' ⊢
      exact absurd hag hag'
    · skip
      obtain rfl := iv_s hjs hjs' ek ek'
      obtain rfl := iv_m (by omega) (by omega) en en'
      rw [show (fun t => cl js (ii' + t)) = fun t => cl js (ii + t) from funext (iv_cl hq ei' ei)] at hA'
      rw [hR.2.1.ag hjs'] at hag'
      obtain ⟨hC, hR⟩ := iv_frL hF' hC hR
      exact pr_go h2 (by rw [ffA_un hA' hA]) ⟨_, _, _, _, _, _, _, _, _, _, _, _, _, _, _, _, _, _, _, hC, hR, hV, hq⟩
    · skip
      obtain rfl := iv_s hjs hjs' ek ek'
      obtain rfl := iv_m (by omega) (by omega) en en'
      rw [show (fun t => cl js (ii' + t)) = fun t => cl js (ii + t) from funext (iv_cl hq ei' ei)] at hA'
      rw [hR.2.1.ag hjs'] at hag'
      exact absurd (ffA_un hA hA') hy
    · skip
      obtain rfl := iv_s hjs hjs' ek ek'
      obtain rfl := iv_m (by omega) (by omega) en en'
      rw [show (fun t => cl js (ii' + t)) = fun t => cl js (ii + t) from funext (iv_cl hq ei' ei)] at hA'
      rw [hR.2.1.ag hjs'] at hag'
      exact absurd (ffA_un hA hA') hy
  · skip
    rw [hC.2.2.1.ag hjs] at hag
    obtain ⟨hC, hR⟩ := iv_f12 0 hC hR
    refine h1 _ _ _ _ _ _ hR.1.1.1 ?_
    refine sp_X7_house hR.1.1 hR.2.1.1 hR.2.1.ecl (fun g' => ?_) (fun g' gb' => ?_) (fun js' hjs' ek' gs' hag' => ?_) (fun js' ii' nn' y' hjs' ek' gs' hag' ei' en' hb60' hA' hy' F2' hF' => ?_) (fun js' ii' nn' hjs' ek' gs' hag' ei' en' hb60' hA' h3' F2' hF' => ?_) (fun js' ii' nn' hjs' ek' gs' hag' ei' en' hb60' hA' hok' hlt' F2' I2' eF' e5' i25' i26' i27' eI' => ?_)
    · skip
      exact absurd (iv_sc hjs ek) g'
    · skip
      exact absurd gs gb'
    · skip
      obtain rfl := iv_s hjs hjs' ek ek'
      rw [hR.2.1.ag hjs'] at hag' ⊢
      exact absurd hag hag'
    · skip
      obtain rfl := iv_s hjs hjs' ek ek'
      obtain rfl := iv_m (by omega) (by omega) en en'
      rw [show (fun t => cl js (ii' + t)) = fun t => cl js (ii + t) from funext (iv_cl hq ei' ei)] at hA'
      rw [hR.2.1.ag hjs'] at hag'
      exact absurd (ffA_un hA' hA) hy'
    · skip
      obtain rfl := iv_s hjs hjs' ek ek'
      obtain rfl := iv_m (by omega) (by omega) en en'
      rw [show (fun t => cl js (ii' + t)) = fun t => cl js (ii + t) from funext (iv_cl hq ei' ei)] at hA'
      rw [hR.2.1.ag hjs'] at hag'
      obtain ⟨hC, hR⟩ := iv_frL hF' hC hR
      exact pr_go h2 (rfl) ⟨_, _, _, _, _, _, _, _, _, _, _, _, _, _, _, _, _, _, _, hC, hR, hV, hq⟩
    · skip
      obtain rfl := iv_s hjs hjs' ek ek'
      obtain rfl := iv_m (by omega) (by omega) en en'
      rw [show (fun t => cl js (ii' + t)) = fun t => cl js (ii + t) from funext (iv_cl hq ei' ei)] at hA'
      rw [hR.2.1.ag hjs'] at hag'
      exact absurd hlt' (show ¬ nh < 3 by omega)
  · skip
    rw [hC.2.2.1.ag hjs] at hag
    obtain ⟨hC, hR⟩ := iv_hoC hC hR hlt hs hH hP hsm eF e7 eI
    refine h1 _ _ _ _ _ _ hR.1.1.1 ?_
    refine sp_X7_house hR.1.1 hR.2.1.1 hR.2.1.ecl (fun g' => ?_) (fun g' gb' => ?_) (fun js' hjs' ek' gs' hag' => ?_) (fun js' ii' nn' y' hjs' ek' gs' hag' ei' en' hb60' hA' hy' F2' hF' => ?_) (fun js' ii' nn' hjs' ek' gs' hag' ei' en' hb60' hA' h3' F2' hF' => ?_) (fun js' ii' nn' hjs' ek' gs' hag' ei' en' hb60' hA' hok' hlt' F2' I2' eF' e5' i25' i26' i27' eI' => ?_)
    · skip
      exact absurd (iv_sc hjs ek) g'
    · skip
      exact absurd gs gb'
    · skip
      obtain rfl := iv_s hjs hjs' ek ek'
      rw [hR.2.1.ag hjs'] at hag' ⊢
      exact absurd hag hag'
    · skip
      obtain rfl := iv_s hjs hjs' ek ek'
      obtain rfl := iv_m (by omega) (by omega) en en'
      rw [show (fun t => cl js (ii' + t)) = fun t => cl js (ii + t) from funext (iv_cl hq ei' ei)] at hA'
      rw [hR.2.1.ag hjs'] at hag'
      exact absurd (ffA_un hA' hA) hy'
    · skip
      obtain rfl := iv_s hjs hjs' ek ek'
      obtain rfl := iv_m (by omega) (by omega) en en'
      rw [show (fun t => cl js (ii' + t)) = fun t => cl js (ii + t) from funext (iv_cl hq ei' ei)] at hA'
      rw [hR.2.1.ag hjs'] at hag'
      exact absurd hlt (show ¬ nh < 3 by omega)
    · skip
      obtain rfl := iv_s hjs hjs' ek ek'
      obtain rfl := iv_m (by omega) (by omega) en en'
      rw [show (fun t => cl js (ii' + t)) = fun t => cl js (ii + t) from funext (iv_cl hq ei' ei)] at hA'
      rw [hR.2.1.ag hjs'] at hag'
      have ec := iv_cl (j := js) hq ei' ei
      rw [ec] at i25' i26'
      simp only [ec] at i27'
      obtain ⟨hC, hR⟩ := iv_hoR hok.1 hlt eF' e5' i25' i26' i27' eI' hC hR
      exact pr_go h2 rfl ⟨_, _, _, _, _, _, _, _, _, _, _, _, _, _, _, _, _, _, _, hC, hR, iv_vho hV, hq⟩
