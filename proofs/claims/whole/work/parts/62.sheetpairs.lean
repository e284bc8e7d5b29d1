/-! sheets: what both sides do -/
section MHI5
variable {S S2 : List mhS} {F F2 : mhF} {I I2 : mhI} {P P2 : mhP} {nh nr np nw : Nat} {wd hg aH aR aW : Nat → Nat} {kd sm cl : Nat → Nat → Int32} {so ln : Nat → Int32} {rp : mhRp} {pf : Nat → Int32} {wk : Nat → mhWk} {tr fa : Int32} {fb : Int32}
theorem mhFill_at {a b n x : Nat} {v : Int32} (hx : x < 2 ^ 31) : mhFill I a n v b (nI x) = if b = a ∧ x < n then v else I b (nI x) := by
  unfold mhFill; rw [nI_toInt hx]
  by_cases h : b = a ∧ x < n
  · rw [if_pos h, if_pos ⟨h.1, by omega, by omega⟩]
  · rw [if_neg h, if_neg (by omega)]
theorem mhFillR_at {a b lo n x : Nat} {v : Int32} (hx : x < 2 ^ 31) : mhFillR I a lo n v b (nI x) = if b = a ∧ lo ≤ x ∧ x < lo + n then v else I b (nI x) := by
  unfold mhFillR; rw [nI_toInt hx]
  by_cases h : b = a ∧ lo ≤ x ∧ x < lo + n
  · rw [if_pos h, if_pos ⟨h.1, by omega, by omega⟩]
  · rw [if_neg h, if_neg (by omega)]
theorem mhFill_ne {a b n : Nat} {v y : Int32} (h : b ≠ a) : mhFill I a n v b y = I b y := if_neg fun e => h e.1
theorem mhFillR_ne {a b lo n : Nat} {v y : Int32} (h : b ≠ a) : mhFillR I a lo n v b y = I b y := if_neg fun e => h e.1
theorem mhCp_ne {a s b d n c : Nat} {y : Int32} (h : c ≠ b) : mhCp I a s b d n c y = I c y := if_neg fun e => h e.1
theorem nI_jj {a b : Nat} (ha : a < 4) (hb : b < 4) (h : a ≠ b) : ¬ nI a = nI b := fun e => h (nI_iv e (by omega) (by omega))
set_option maxHeartbeats 4000000 in
set_option maxRecDepth 100000 in
theorem iv_sheet {j : Nat} (hj : j < 4) {o n : Int32} (h0 : 0 ≤ n) (h60 : n ≤ 60) (hC : mhCI S F I P nh wd hg aH kd sm so ln cl nr aR rp np pf nw aW wk tr fa) (hR : mhRI S F I nh wd hg kd sm so ln cl nr rp np pf nw wk tr fb) : mhRI S (mhUF (mhUF (mhUF F 0 12 0) (13 + 2 * j) 1 o) (13 + 2 * j) 2 n) (mhFill I (13 + 2 * j + 1) 60 0) nh wd hg kd sm so ln cl nr rp np pf nw wk tr fb ∧ ∃ (so2 ln2 : Nat → Int32) (cl2 : Nat → Nat → Int32), mhCI S (mhUF (mhUF (mhUF (mhUF F 0 12 0) (13 + 2 * j) 1 o) (13 + 2 * j) 2 n) 21 0 0) (mhFillR (mhUI (mhUI (mhFill I (13 + 2 * j + 1) 60 0) 22 (nI j) o) 23 (nI j) n) 24 (60 * j) 60 0) P nh wd hg aH kd sm so2 ln2 cl2 nr aR rp np pf nw aW wk tr 0 ∧ mhRI S (mhUF (mhUF (mhUF (mhUF F 0 12 0) (13 + 2 * j) 1 o) (13 + 2 * j) 2 n) 21 0 0) (mhFillR (mhUI (mhUI (mhFill I (13 + 2 * j + 1) 60 0) 22 (nI j) o) 23 (nI j) n) 24 (60 * j) 60 0) nh wd hg kd sm so2 ln2 cl2 nr rp np pf nw wk tr 0 ∧ ∀ i a b, nI a = nI b → cl2 i a = cl2 i b := by
  obtain ⟨F2, eF⟩ : ∃ G, G = mhUF (mhUF (mhUF F 0 12 0) (13 + 2 * j) 1 o) (13 + 2 * j) 2 n := ⟨_, rfl⟩
  obtain ⟨I2, eI⟩ : ∃ G, G = mhFill I (13 + 2 * j + 1) 60 0 := ⟨_, rfl⟩
  have f1 : F2 (13 + 2 * j) 1 = o := by rw [eF, mhUF_nk (by omega), mhUF_at]
  have f2 : F2 (13 + 2 * j) 2 = n := by rw [eF, mhUF_at]
  have fo : ∀ b k, ¬ (b = 13 + 2 * j ∧ (k = 1 ∨ k = 2)) → ¬ (b = 0 ∧ k = 12) → F2 b k = F b k := fun b k q1 q2 => by rw [eF, mhUF_nk (by omega), mhUF_nk (by omega), mhUF_nk (by omega)]
  have fz : F2 0 12 = 0 := by rw [eF, mhUF_nk (by omega), mhUF_nk (by omega), mhUF_at]
  have io : ∀ b y, b ≠ 13 + 2 * j + 1 → I2 b y = I b y := fun b y q => by rw [eI]; exact mhFill_ne q
  have ij : ∀ c, c < 60 → I2 (13 + 2 * j + 1) (nI c) = 0 := fun c hc => by rw [eI, mhFill_at (by omega), if_pos ⟨rfl, hc⟩]
  rw [← eF, ← eI]
  obtain ⟨I3, eI3⟩ : ∃ G, G = mhFillR (mhUI (mhUI I2 22 (nI j) o) 23 (nI j) n) 24 (60 * j) 60 0 := ⟨_, rfl⟩
  rw [← eI3]
  have i22 : ∀ t, t < 4 → I3 22 (nI t) = if t = j then o else I 22 (nI t) := fun t ht => by
    rw [eI3, mhFillR_ne (by omega), mhUI_ne (by omega)]
    by_cases e : t = j
    · rw [if_pos e, e, mhUI_sl]
    · rw [if_neg e, mhUI_nk (fun q => nI_jj ht hj e q.2), io _ _ (by omega)]
  have i23 : ∀ t, t < 4 → I3 23 (nI t) = if t = j then n else I 23 (nI t) := fun t ht => by
    rw [eI3, mhFillR_ne (by omega)]
    by_cases e : t = j
    · rw [if_pos e, e, mhUI_sl]
    · rw [if_neg e, mhUI_nk (fun q => nI_jj ht hj e q.2), mhUI_ne (by omega), io _ _ (by omega)]
  have i24 : ∀ t c, t < 4 → c < 60 → I3 24 (nI (60 * t + c)) = if t = j then 0 else I 24 (nI (60 * t + c)) := fun t c ht hc => by
    rw [eI3, mhFillR_at (by omega)]
    by_cases e : t = j
    · rw [if_pos e, if_pos ⟨rfl, by omega, by omega⟩]
    · rw [if_neg e, if_neg (by omega), mhUI_ne (by omega), mhUI_ne (by omega), io _ _ (by omega)]
  have i3o : ∀ b y, ¬ (22 ≤ b ∧ b ≤ 24) → I3 b y = I2 b y := fun b y q => by rw [eI3, mhFillR_ne (by omega), mhUI_ne (by omega), mhUI_ne (by omega)]
  have hC2 := hC.sheet (F2 := F2) (I2 := I2) (fun b k q1 q2 => fo b k (by omega) q2) (fun b y q1 => io b y (by omega)) (fun t ht => ⟨(hC.2.2.1.1 t ht).1, (hC.2.2.1.1 t ht).2.1, by
    by_cases e : t = j
    · subst e; rw [f2]; exact ⟨h0, h60⟩
    · rw [fo _ _ (by omega) (by omega)]; exact (hC.2.2.1.1 t ht).2.2⟩) fz
  have hR2 : mhRI S F2 I2 nh wd hg kd sm so ln cl nr rp np pf nw wk tr fb := hR.go exS.rfl' (fun k q1 q2 q3 => fo _ _ (by omega) (by omega)) (fun b y q1 q2 q3 => io _ _ (by omega)) ((fo _ _ (by omega) (by omega)).trans hR.efa)
  refine ⟨hR2, _, _, _, hC2.go (F2 := mhUF F2 21 0 0) (I2 := I3) (fun b k q1 q2 q3 q4 q5 => mhUF_nk (by omega)) (fun b y q1 q2 q3 q4 q5 q6 q7 => i3o b y (by omega)) ((mhUF_nk (by omega)).trans fz), hR2.sheet (F2 := mhUF F2 21 0 0) (I2 := I3) (fun k q1 => mhUF_nk (by omega)) (fun b y q1 q2 => i3o b y (by omega)) ⟨fun t ht => ?_, fun t ht => ?_⟩ mhUF_at, fun i a b e => by rw [e]⟩
  · rw [i23 t ht]
    by_cases e : t = j
    · rw [if_pos e]; exact ⟨h0, h60⟩
    · rw [if_neg e]; exact hR.2.1.1 t ht
  · rw [i22 t ht, i23 t ht]
    by_cases e : t = j
    · subst e
      rw [if_pos rfl, if_pos rfl]
      exact ⟨f1.symm, fun _ => ⟨f2.symm, fun c hc => by rw [i24 t c ht hc, if_pos rfl]; exact (ij c hc).symm⟩⟩
    · rw [if_neg e, if_neg e]
      have g1 : F2 (13 + 2 * t) 1 = F (13 + 2 * t) 1 := fo _ _ (by omega) (by omega)
      have g2 : F2 (13 + 2 * t) 2 = F (13 + 2 * t) 2 := fo _ _ (by omega) (by omega)
      refine ⟨?_, fun hz => ⟨?_, fun c hc => ?_⟩⟩
      · show I 22 (nI t) = F2 (13 + 2 * t) 1
        rw [g1, hC.2.2.1.eso ht, hR.2.1.eso ht]
      · show I 23 (nI t) = F2 (13 + 2 * t) 2
        have hz' : ¬ so t = -9 := by rw [← hC.2.2.1.eso ht, ← g1]; exact hz
        rw [g2, ((hC.2.2.1.2 t ht).2 hz').1, ((hR.2.1.2 t ht).2 hz').1]
      · show I3 24 (nI (60 * t + c)) = I2 (13 + 2 * t + 1) (nI c)
        have hz' : ¬ so t = -9 := by rw [← hC.2.2.1.eso ht, ← g1]; exact hz
        rw [i24 t c ht hc, if_neg e, io _ _ (by omega), ((hC.2.2.1.2 t ht).2 hz').2 c hc, ((hR.2.1.2 t ht).2 hz').2 c hc]
end MHI5
set_option maxHeartbeats 4000000 in
set_option maxRecDepth 100000 in
theorem pr_sheet {l : Launch} {K : mhX} {S : List mhS} {F : mhF} {I : mhI} {J : mhJ} {P : mhP} {Φ : mhQ} {Ψ : Int32 → mhQ} {a1 a2 a3 : Int32} (h : mhIv S F I P) (h1 : ∀ (x : Int32) (S : List mhS) (F : mhF) (I : mhI) (J : mhJ) (P : mhP), mhKX7 S → mhOk l K mX7_sheet [.ref 21, .int a1, .int a2, .int a3] S F I J P (Ψ x) → Φ (some (.int x)) S F I J P) (h2 : ∀ (x : Int32) (S : List mhS) (F : mhF) (I : mhI) (J : mhJ) (P : mhP), mhIv S F I P → Ψ x (some (.int x)) S F I J P) : mhOk l K mX6_sheet [.ref 0, .int a1, .int a2, .int a3] S F I J P Φ := by
  obtain ⟨nh, wd, hg, aH, kd, sm, so, ln, cl, nr, aR, rp, np, pf, nw, aW, wk, tr, fa, hC, hR, hV, hq⟩ := h
  refine sp_X6_sheet hC.2.1.1.1 hC.2.2.1.1 (fun g => ?_) (fun j hj ek g => ?_)
  · refine h1 _ _ _ _ _ _ hR.1.1.1 ?_
    obtain ⟨hC, hR⟩ := iv_f12 (mhShF a1 a2 a3) hC hR
    refine sp_X7_sheet hR.1.1.1 hR.2.1.1 (fun _ => ?_) (fun _ _ _ gx => absurd gx g)
    obtain ⟨hC, hR⟩ := iv_f0 (mhShF a1 a2 a3) hC hR
    exact pr_go h2 rfl ⟨_, _, _, _, _, _, _, _, _, _, _, _, _, _, _, _, _, _, _, hC, hR, hV, hq⟩
  · subst ek
    refine h1 _ _ _ _ _ _ hR.1.1.1 ?_
    obtain ⟨hR2, so2, ln2, cl2, hC3, hR3, hq3⟩ := iv_sheet hj (o := a2) g.2.2.2 g.2.2.1 hC hR
    refine sp_X7_sheet hR2.1.1.1 hR2.2.1.1 (fun gx => absurd g gx) (fun jb hjb ekb _ => ?_)
    obtain rfl := iv_s hj hjb rfl ekb
    exact pr_go h2 rfl ⟨nh, wd, hg, aH, kd, sm, so2, ln2, cl2, nr, aR, rp, np, pf, nw, aW, wk, tr, _, hC3, hR3, hV, hq3⟩
