/-! pane, photograph, report: what both sides do -/
section MHI7
variable {S S2 : List mhS} {F F2 : mhF} {I I2 : mhI} {P P2 : mhP} {nh nr np nw : Nat} {wd hg aH aR aW : Nat → Nat} {kd sm cl : Nat → Nat → Int32} {so ln : Nat → Int32} {rp : mhRp} {pf : Nat → Int32} {wk : Nat → mhWk} {tr fa : Int32} {fb : Int32} {kd2 sm2 : Nat → Nat → Int32}
theorem mhCI.pane (h : mhCI S F I P nh wd hg aH kd sm so ln cl nr aR rp np pf nw aW wk tr fa) {j : Nat} (hj : j < nh) (hI : ∀ b y, b ≠ aH j + 1 → b ≠ aH j + 2 → I2 b y = I b y) (hk : ∀ k, k < gSides (wd j) (hg j) → I2 (aH j + 1) (nI k) = kd2 j k) (hs : ∀ k, k < gSides (wd j) (hg j) → I2 (aH j + 2) (nI k) = sm2 j k) (ho : ∀ t, t < nh → t ≠ j → kd2 t = kd t ∧ sm2 t = sm t) : mhCI S F I2 P nh wd hg aH kd2 sm2 so ln cl nr aR rp np pf nw aW wk tr fa := by
  obtain ⟨g, a, b, c, d, e, x, t, f⟩ := h
  have La := fun j (hj : j < nh) => a.lt hj
  have Le := fun v (hv : v < nw) => e.lt hv
  have hlj := La j hj
  refine ⟨g, ⟨⟨a.1.1, a.1.2.1, a.1.2.2.1, fun t ht => ⟨(a.1.2.2.2 t ht).1, ?_⟩⟩, fun t ht k hk2 => ?_, fun t ht k hk2 => ?_, a.2.2.2⟩, b.go exS.rfl' (fun _ _ _ _ => rfl) (fun b h1 h2 y => hI _ _ (by omega) (by omega)) (fun _ => rfl), c, d.go rfl (fun y => hI _ _ (by omega) (by omega)), e.go exS.rfl' rfl (fun _ _ _ => rfl) (fun v hv y => hI _ _ (by have := x.1 v j hv hj; omega) (by have := x.1 v j hv hj; omega)) (fun _ _ => rfl), x, t, f⟩
  · obtain ⟨h1, h2, h3, h4, h5, h6, h7, h8, h9, h10, h11⟩ := (a.1.2.2.2 t ht).2
    have hlt := La t ht
    have ha : ∀ q, 3 ≤ q → q ≤ 10 → ∀ y, I2 (aH t + q) y = I (aH t + q) y := fun q q1 q2 y => by
      by_cases e : t = j
      · subst e; exact hI _ _ (by omega) (by omega)
      · have := a.2.2.2 t j ht hj e; exact hI _ _ (by omega) (by omega)
    exact ⟨h1, h2, h3, h4, h5, h6, fun b hb y => by rw [Nat.add_assoc, ha (3 + b) (by omega) (by omega), ← Nat.add_assoc]; exact h7 b hb y, (ha 10 (by omega) (by omega) _).trans h8, (ha 10 (by omega) (by omega) _).trans h9, (ha 10 (by omega) (by omega) _).trans h10, h11⟩
  · by_cases e : t = j
    · subst e; exact hk k hk2
    · have := a.2.2.2 t j ht hj e
      rw [hI _ _ (by omega) (by omega), (ho t ht e).1]; exact a.2.1 t ht k hk2
  · by_cases e : t = j
    · subst e; exact hs k hk2
    · have := a.2.2.2 t j ht hj e
      rw [hI _ _ (by omega) (by omega), (ho t ht e).2]; exact a.2.2.1 t ht k hk2
theorem mhRI.pane (h : mhRI S F I nh wd hg kd sm so ln cl nr rp np pf nw wk tr fa) (hI : ∀ b y, b ≠ 27 → b ≠ 28 → I2 b y = I b y) (hk : ∀ j, j < nh → mhKn I2 j (wd j) (hg j) (kd2 j)) (hs : ∀ j, j < nh → smM I2 j (wd j) (hg j) (sm2 j)) : mhRI S F I2 nh wd hg kd2 sm2 so ln cl nr rp np pf nw wk tr fa := by
  obtain ⟨a, b, c, d, e, t, f⟩ := h
  exact ⟨⟨⟨a.1.1, a.1.2.1, a.1.2.2.1, fun j hj => ⟨(a.1.2.2.2 j hj).1, (a.1.2.2.2 j hj).2.1, (hI 25 _ (by omega) (by omega)).trans (a.1.2.2.2 j hj).2.2.1, (hI 26 _ (by omega) (by omega)).trans (a.1.2.2.2 j hj).2.2.2⟩⟩, hk, hs⟩, b.go (fun b h1 h2 y => hI _ _ (by omega) (by omega)), c.go rfl (fun b h1 h2 y => hI _ _ (by omega) (by omega)), d.go rfl (fun y => hI _ _ (by omega) (by omega)), e.go rfl (fun b h1 h2 y => hI _ _ (by omega) (by omega)), t, f⟩
def pnK (kd : Nat → Nat → Int32) (j r : Nat) (v : Int32) : Nat → Nat → Int32 := fun t k => if t = j ∧ k = r then v else kd t k
def pnS (kd sm : Nat → Nat → Int32) (j r : Nat) (v : Int32) : Nat → Nat → Int32 := fun t k => if t = j ∧ k = r ∧ ¬ kd j r = v then 0 else sm t k
theorem iv_pane {j r : Nat} {v : Int32} (hj : j < nh) (hr : r < gSides (wd j) (hg j)) (hC : mhCI S F I P nh wd hg aH kd sm so ln cl nr aR rp np pf nw aW wk tr fa) (hR : mhRI S F I nh wd hg kd sm so ln cl nr rp np pf nw wk tr fb) (e2 : I2 = if I (aH j + 1) (nI r) = v then mhUI I (aH j + 1) (nI r) v else mhUI (mhUI I (aH j + 1) (nI r) v) (aH j + 2) (nI r) 0) : mhCI S F I2 P nh wd hg aH (pnK kd j r v) (pnS kd sm j r v) so ln cl nr aR rp np pf nw aW wk tr fa ∧ mhRI S F I2 nh wd hg kd sm so ln cl nr rp np pf nw wk tr fb ∧ I2 27 (nI (50 * j + r)) = kd j r ∧ ∀ {I3 : mhI}, (I3 = if kd j r = v then mhUI I2 27 (nI (50 * j + r)) v else mhUI (mhUI I2 28 (nI (50 * j + r)) 0) 27 (nI (50 * j + r)) v) → mhCI S F I3 P nh wd hg aH (pnK kd j r v) (pnS kd sm j r v) so ln cl nr aR rp np pf nw aW wk tr fa ∧ mhRI S F I3 nh wd hg (pnK kd j r v) (pnS kd sm j r v) so ln cl nr rp np pf nw wk tr fb := by
  have hb := gBd (hC.gok hj)
  have hl := hC.2.1.lt hj
  have hn3 := hC.nh3
  have hv := hC.2.1.2.1 j hj r hr
  have hI : ∀ b y, b ≠ aH j + 1 → b ≠ aH j + 2 → I2 b y = I b y := fun b y q1 q2 => by
    rw [e2]; split
    · exact mhUI_ne q1
    · rw [mhUI_ne q2, mhUI_ne q1]
  have hCp : mhCI S F I2 P nh wd hg aH (pnK kd j r v) (pnS kd sm j r v) so ln cl nr aR rp np pf nw aW wk tr fa := hC.pane hj hI (fun k hk => by
      unfold pnK
      rw [e2]; split
      · rw [mhUI_at (by omega) (by omega)]
        by_cases e : k = r
        · rw [if_pos ⟨rfl, e⟩, if_pos ⟨rfl, e⟩]
        · rw [if_neg (fun q => e q.2), if_neg (fun q => e q.2)]; exact hC.2.1.2.1 j hj k hk
      · rw [mhUI_ne (by omega), mhUI_at (by omega) (by omega)]
        by_cases e : k = r
        · rw [if_pos ⟨rfl, e⟩, if_pos ⟨rfl, e⟩]
        · rw [if_neg (fun q => e q.2), if_neg (fun q => e q.2)]; exact hC.2.1.2.1 j hj k hk) (fun k hk => by
      unfold pnS
      rw [e2, hv]; split
      · rename_i q
        rw [mhUI_ne (by omega), if_neg (fun z => z.2.2 q)]; exact hC.2.1.2.2.1 j hj k hk
      · rename_i q
        rw [mhUI_at (by omega) (by omega)]
        by_cases e : k = r
        · rw [if_pos ⟨rfl, e⟩, if_pos ⟨rfl, e, q⟩]
        · rw [if_neg (fun q => e q.2), if_neg (fun q => e q.2.1), mhUI_ne (by omega)]; exact hC.2.1.2.2.1 j hj k hk) (fun t ht e => ⟨funext fun k => if_neg fun q => e q.1, funext fun k => if_neg fun q => e q.1⟩)
  have hRp : mhRI S F I2 nh wd hg kd sm so ln cl nr rp np pf nw wk tr fb := hR.go exS.rfl' (fun _ _ _ _ => rfl) (fun b y h1 h2 h3 => hI _ _ (by omega) (by omega)) hR.efa
  refine ⟨hCp, hRp, hRp.1.2.1 j hj r hr, fun {I3} e3 => ⟨hCp.go (fun _ _ _ _ _ _ _ => rfl) (fun b y q1 q2 q3 q4 q5 q6 q7 => ?_) hCp.efa, hRp.pane (fun b y q1 q2 => ?_) (fun t ht k hk => ?_) (fun t ht k hk => ?_)⟩⟩
  · rw [e3]; split
    · exact mhUI_ne (by omega)
    · rw [mhUI_ne (by omega), mhUI_ne (by omega)]
  · rw [e3]; split
    · exact mhUI_ne (by omega)
    · rw [mhUI_ne (by omega), mhUI_ne (by omega)]
  · have hbt := gBd (hC.gok ht)
    unfold pnK
    rw [e3]; split
    · rw [mhUI_at (by omega) (by omega)]
      by_cases e : t = j ∧ k = r
      · rw [if_pos ⟨rfl, by omega⟩, if_pos e]
      · rw [if_neg (by omega), if_neg e]; exact hRp.1.2.1 t ht k hk
    · rw [mhUI_at (by omega) (by omega)]
      by_cases e : t = j ∧ k = r
      · rw [if_pos ⟨rfl, by omega⟩, if_pos e]
      · rw [if_neg (by omega), if_neg e, mhUI_ne (by omega)]; exact hRp.1.2.1 t ht k hk
  · have hbt := gBd (hC.gok ht)
    unfold pnS
    rw [e3]; split
    · rename_i q
      rw [mhUI_ne (by omega), if_neg (fun z => z.2.2 q)]; exact hRp.1.2.2 t ht k hk
    · rename_i q
      rw [mhUI_ne (by omega), mhUI_at (by omega) (by omega)]
      by_cases e : t = j ∧ k = r
      · rw [if_pos ⟨rfl, by omega⟩, if_pos ⟨e.1, e.2, q⟩]
      · rw [if_neg (by omega), if_neg (fun z => e ⟨z.1, z.2.1⟩)]; exact hRp.1.2.2 t ht k hk
end MHI7
set_option maxHeartbeats 4000000 in
set_option maxRecDepth 100000 in
theorem pr_pane {l : Launch} {K : mhX} {S : List mhS} {F : mhF} {I : mhI} {J : mhJ} {P : mhP} {Φ : mhQ} {Ψ : Int32 → mhQ} {a1 a2 a3 : Int32} (h : mhIv S F I P) (h1 : ∀ (x : Int32) (S : List mhS) (F : mhF) (I : mhI) (J : mhJ) (P : mhP), mhKX7 S → mhOk l K mX7_pane [.ref 21, .int a1, .int a2, .int a3] S F I J P (Ψ x) → Φ (some (.int x)) S F I J P) (h2 : ∀ (x : Int32) (S : List mhS) (F : mhF) (I : mhI) (J : mhJ) (P : mhP), mhIv S F I P → Ψ x (some (.int x)) S F I J P) : mhOk l K mX6_pane [.ref 0, .int a1, .int a2, .int a3] S F I J P Φ := by
  obtain ⟨nh, wd, hg, aH, kd, sm, so, ln, cl, nr, aR, rp, np, pf, nw, aW, wk, tr, fa, hC, hR, hV, hq⟩ := h
  refine sp_X6_pane hC.2.1.1 (fun g => ?_) (fun j r hj hr ex ey g => ?_) (fun j r hj hr ex ey g => ?_)
  · refine h1 _ _ _ _ _ _ hR.1.1.1 ?_
    refine sp_X7_pane hR.1.1 (fun _ => ?_) (fun j r hj hr ex ey _ => absurd ⟨j, hj, ex, r, hr, ey⟩ g) (fun j r hj hr ex ey _ => absurd ⟨j, hj, ex, r, hr, ey⟩ g)
    exact pr_go h2 rfl ⟨_, _, _, _, _, _, _, _, _, _, _, _, _, _, _, _, _, _, _, hC, hR, hV, hq⟩
  · refine h1 _ _ _ _ _ _ hR.1.1.1 ?_
    refine sp_X7_pane hR.1.1 (fun gx => absurd ⟨j, hj, ex, r, hr, ey⟩ gx) (fun _ _ _ _ _ _ _ => ?_) (fun _ _ _ _ _ _ gx => absurd gx g)
    exact pr_go h2 rfl ⟨_, _, _, _, _, _, _, _, _, _, _, _, _, _, _, _, _, _, _, hC, hR, hV, hq⟩
  · have hv := hC.2.1.2.1 j hj r hr
    refine h1 _ _ _ _ _ _ hR.1.1.1 ?_
    obtain ⟨hC2, hR2, hv2, kk⟩ := iv_pane hj hr hC hR rfl
    refine sp_X7_pane hR2.1.1 (fun gx => absurd ⟨j, hj, ex, r, hr, ey⟩ gx) (fun _ _ _ _ _ _ gx => absurd g gx) (fun jb rb hjb hrb exb eyb _ => ?_)
    obtain rfl := iv_j hC hj hjb ex exb
    obtain rfl := iv_k hC hj hr hrb ey eyb
    rw [hv2]
    obtain ⟨hC, hR⟩ := kk rfl
    exact pr_go h2 hv.symm ⟨_, _, _, _, _, _, _, _, _, _, _, _, _, _, _, _, _, _, _, hC, hR, hV, hq⟩
