/-! the law: its object, its arrays; the class's calls on them -/
/-- one house (kinds kd in the class, ko in the law's array), reports rp -/
def lwI (S : List mhS) (F : mhF) (I : mhI) (P : mhP) (w h : Nat) (kd ko : Nat → Int32) (nr : Nat) (rp : mhRp) : Prop :=
  mhKX4 S ∧ mhHC S F I P 1 (fun _ => w) (fun _ => h) (fun _ => 22) ∧ mhPn I 22 w h kd ∧ lwOf S I 21 w h ko ∧ S[33]? = some (.inl (0, 5)) ∧ (∃ aR, mhRC S F P nr aR rp) ∧ vRp 1 (fun _ => w) (fun _ => h) nr rp
section LWI
variable {S : List mhS} {F : mhF} {I : mhI} {P : mhP} {w h nr : Nat} {kd ko : Nat → Int32} {rp : mhRp}
theorem lwI.k4 (hI : lwI S F I P w h kd ko nr rp) : mhKX4 S := hI.1
theorem lwI.k6 (hI : lwI S F I P w h kd ko nr rp) : mhKX6 S := hI.2.1.1
theorem lwI.hc (hI : lwI S F I P w h kd ko nr rp) : mhHC S F I P 1 (fun _ => w) (fun _ => h) (fun _ => 22) := hI.2.1
theorem lwI.pn (hI : lwI S F I P w h kd ko nr rp) : ∀ j, j < 1 → mhPn I ((fun _ : Nat => 22) j) ((fun _ : Nat => w) j) ((fun _ : Nat => h) j) ((fun _ : Nat => kd) j) := fun _ _ => hI.2.2.1
theorem lwI.of (hI : lwI S F I P w h kd ko nr rp) : lwOf S I 21 w h ko := hI.2.2.2.1
theorem lwI.g (hI : lwI S F I P w h kd ko nr rp) : gOk w h := hI.of.2.1
theorem lwI.out (hI : lwI S F I P w h kd ko nr rp) : S[33]? = some (.inl (0, 5)) := hI.2.2.2.2.1
theorem lwOf.to {I2 : mhI} {b : Nat} (hO : lwOf S I b w h ko) (e : ∀ y, I2 b y = I b y) : lwOf S I2 b w h ko := ⟨hO.1, hO.2.1, (e _).trans hO.2.2.1, (e _).trans hO.2.2.2.1, (e _).trans hO.2.2.2.2.1, fun k hk => (e _).trans (hO.2.2.2.2.2 k hk)⟩
theorem lwOut.keep {I2 : mhI} {oo c m r : Nat} {sd fl : Int32} (hU : lwOut S I oo c m r sd fl) (e : ∀ y, I2 oo y = I oo y) : lwOut S I2 oo c m r sd fl := ⟨hU.1, (e _).trans hU.2.1, (e _).trans hU.2.2.1, (e _).trans hU.2.2.2.1, (e _).trans hU.2.2.2.2.1, (e _).trans hU.2.2.2.2.2⟩
theorem lwI.fr {F2 : mhF} {I2 : mhI} (hI : lwI S F I P w h kd ko nr rp) (hf : frC F I F2 I2) : lwI S F2 I2 P w h kd ko nr rp := by
  obtain ⟨h1, h2, h3, h4, h5, ⟨aR, h6⟩, h7⟩ := hI
  exact ⟨h1, h2.fr hf, h3.fr hf (by omega), h4.to (fun y => hf.2 _ _ (by omega) (by omega) (by omega)), h5, ⟨aR, h6.fr hf⟩, h7⟩
theorem lwI.fo {I2 : mhI} (hI : lwI S F I P w h kd ko nr rp) (hf : frO 33 I I2) : lwI S F I2 P w h kd ko nr rp := by
  obtain ⟨h1, ⟨a1, a2, a3, a4⟩, h3, h4, h5, h6, h7⟩ := hI
  refine ⟨h1, ⟨a1, a2, a3, fun j hj => ⟨(a4 j hj).1, ?_⟩⟩, fun k hk => (hf _ _ (by omega)).trans (h3 k hk), h4.to (fun y => hf _ _ (by omega)), h5, h6, h7⟩
  obtain ⟨q1, q2, q3, q4, q5, q6, q7, q8, q9, q10, q11⟩ := (a4 j hj).2
  exact ⟨q1, q2, q3, q4, q5, q6, fun b hb y => (hf (22 + 3 + b) y (by omega)).trans (q7 b hb y), (hf 32 _ (by omega)).trans q8, (hf 32 _ (by omega)).trans q9, (hf 32 _ (by omega)).trans q10, q11⟩
theorem lwI.hr {r : Nat} (hr : r < gRooms w h) : vHR 1 (fun _ => w) (fun _ => h) 0 (nI r) := ⟨0, by omega, rfl, r, hr, rfl⟩
theorem nI_at0 {j : Nat} (hj : j < 1) (e : (0 : Int32) = nI j) : j = 0 := by omega
theorem mhSeR_0 (g : mhSg) : mhSeR 0 g = g.2.2.2.2.2.2 := if_pos rfl
theorem mhSeR_1 (g : mhSg) : mhSeR 1 g = nI g.2.2.2.1 := by unfold mhSeR; rw [if_neg (by decide), if_pos rfl]
theorem mhSeR_2 (g : mhSg) : mhSeR 2 g = nI g.2.2.2.2.1 := by unfold mhSeR; rw [if_neg (by decide), if_neg (by decide), if_pos rfl]
theorem mhSeR_3 (g : mhSg) : mhSeR 3 g = nI g.2.2.1 := by unfold mhSeR; rw [if_neg (by decide), if_neg (by decide), if_neg (by decide)]
end LWI
section LWC
variable {l : Launch} {K : mhX} {Φ : mhQ} {S : List mhS} {F : mhF} {I : mhI} {J : mhJ} {P : mhP} {w h nr : Nat} {kd ko : Nat → Int32} {rp : mhRp}
theorem lw_seen (hI : lwI S F I P w h kd ko nr rp) {r N : Nat} {p q what : Int32} (hr : r < gRooms w h) (ht : mhTurn p q) (hN1 : 1 ≤ N) (hN : N ≤ 200) (hw : 0 ≤ what ∧ what ≤ 3) (hΦ : ∀ F2 I2, lwI S F2 I2 P w h kd ko nr rp → (∀ y, I2 33 y = I 33 y) → Φ (some (.int (mhSeR what (sgRun w h kd (sgPa p q) N (sgSt r p q))))) S F2 I2 J P) : mhOk l K mX6_seen [.ref 0, .int 0, .int (nI r), .int p, .int q, .int (nI N), .int what] S F I J P Φ := by
  have hg := gBd hI.g
  have hok : mhSeA p q (nI N) what := ⟨ht, ⟨by rw [show (1 : Int32) = nI 1 from rfl, nI_leI (by omega) (by omega)]; exact hN1, by rw [show (200 : Int32) = nI 200 from rfl, nI_leI (by omega) (by omega)]; exact hN⟩, hw⟩
  refine sp_X6_seen hI.k4 hI.hc hI.pn (fun hn => absurd (lwI.hr hr) hn) (fun _ hn => absurd hok hn) (fun j r2 m hj hr2 hm e1 e2 e3 _ F2 I2 hf => ?_)
  try dsimp only at hr2 ⊢
  have er : r2 = r := (nI_eq (by omega) (by omega)).mp e2.symm
  have em : m = N := (nI_eq (by omega) (by omega)).mp e3.symm
  subst er; subst em
  exact hΦ F2 I2 (hI.fr hf) (fun y => hf.2 _ _ (by omega) (by omega) (by omega))
theorem lw_seenN (hI : lwI S F I P w h kd ko nr rp) {x y p q n what : Int32} (hx : ¬ vHR 1 (fun _ => w) (fun _ => h) x y) (hΦ : Φ (some (.int (-1))) S F I J P) : mhOk l K mX6_seen [.ref 0, .int x, .int y, .int p, .int q, .int n, .int what] S F I J P Φ :=
  sp_X6_seen hI.k4 hI.hc hI.pn (fun _ => hΦ) (fun q _ => absurd q hx) (fun j r2 m hj hr2 hm e1 e2 e3 _ F2 I2 hf => absurd ⟨j, hj, e1, r2, hr2, e2⟩ hx)
theorem lw_seenB (hI : lwI S F I P w h kd ko nr rp) {r : Nat} {p q n what : Int32} (hr : r < gRooms w h) (hb : ¬ mhSeA p q n what) (hΦ : Φ (some (.int (-2))) S F I J P) : mhOk l K mX6_seen [.ref 0, .int 0, .int (nI r), .int p, .int q, .int n, .int what] S F I J P Φ :=
  sp_X6_seen hI.k4 hI.hc hI.pn (fun hn => absurd (lwI.hr hr) hn) (fun _ _ => hΦ) (fun j r2 m hj hr2 hm e1 e2 e3 hA F2 I2 hf => absurd hA hb)
theorem lw_met (hI : lwI S F I P w h kd ko nr rp) {r a : Nat} {p q : Int32} (hr : r < gRooms w h) (ht : mhTurn p q) (ha : a < 200) (hΦ : ∀ F2 I2, lwI S F2 I2 P w h kd ko nr rp → (∀ y, I2 33 y = I 33 y) → Φ (some (.int (mhMeR a (sgRun w h kd (sgPa p q) (a + 1) (sgSt r p q))))) S F2 I2 J P) : mhOk l K mX6_met [.ref 0, .int 0, .int (nI r), .int p, .int q, .int (nI a)] S F I J P Φ := by
  have hg := gBd hI.g
  have h200 : ¬ (200 : Int32) ≤ nI a := by rw [show (200 : Int32) = nI 200 from rfl, nI_leI (by omega) (by omega)]; omega
  refine sp_X6_met hI.k4 hI.hc hI.pn (fun hn => absurd (lwI.hr hr) hn) (fun _ hn => absurd ⟨ht, nI_pos' (by omega)⟩ hn) (fun _ hn => absurd hn.2 h200) (fun j r2 m hj hr2 hm e1 e2 e3 _ F2 I2 hf => ?_)
  try dsimp only at hr2 ⊢
  have er : r2 = r := (nI_eq (by omega) (by omega)).mp e2.symm
  have em : m = a := (nI_eq (by omega) (by omega)).mp e3.symm
  subst er; subst em
  exact hΦ F2 I2 (hI.fr hf) (fun y => hf.2 _ _ (by omega) (by omega) (by omega))
theorem lw_metB (hI : lwI S F I P w h kd ko nr rp) {r : Nat} {p q n : Int32} (hr : r < gRooms w h) (hb : ¬ (mhTurn p q ∧ 0 ≤ n)) (hl : ¬ 200 ≤ n) (hΦ : Φ (some (.int (-2))) S F I J P) : mhOk l K mX6_met [.ref 0, .int 0, .int (nI r), .int p, .int q, .int n] S F I J P Φ :=
  sp_X6_met hI.k4 hI.hc hI.pn (fun hn => absurd (lwI.hr hr) hn) (fun _ _ => hΦ) (fun _ hn => absurd hn.2 hl) (fun j r2 m hj hr2 hm e1 e2 e3 hA F2 I2 hf => absurd ⟨hA, by rw [e3]; exact nI_pos' (by omega)⟩ hb)
theorem lw_metF (hI : lwI S F I P w h kd ko nr rp) {r : Nat} {p q n : Int32} (hr : r < gRooms w h) (ht : mhTurn p q) (hl : 200 ≤ n) (hΦ : Φ (some (.int (-9))) S F I J P) : mhOk l K mX6_met [.ref 0, .int 0, .int (nI r), .int p, .int q, .int n] S F I J P Φ :=
  sp_X6_met hI.k4 hI.hc hI.pn (fun hn => absurd (lwI.hr hr) hn) (fun _ hn => absurd ⟨ht, Int32.le_trans (by decide) hl⟩ hn) (fun _ _ => hΦ) (fun j r2 m hj hr2 hm e1 e2 e3 hA F2 I2 hf => by
    rw [e3, show (200 : Int32) = nI 200 from rfl, nI_leI (by omega) (by omega)] at hl
    omega)
theorem lw_image (hI : lwI S F I P w h kd ko nr rp) {r : Nat} {p q : Int32} (hr : r < gRooms w h) (ht : mhTurn p q) (hΦ : ∀ F2 I2, lwI S F2 I2 P w h kd ko nr rp → (∀ y, I2 33 y = I 33 y) → Φ (some (.int (sgIm w h kd r p q))) S F2 I2 J P) : mhOk l K mX6_image [.ref 0, .int 0, .int (nI r), .int p, .int q] S F I J P Φ := by
  have hg := gBd hI.g
  refine sp_X6_image hI.k4 hI.hc hI.pn (fun hn => absurd (lwI.hr hr) hn) (fun _ hn => absurd ht hn) (fun j r2 hj hr2 e1 e2 _ F2 I2 hf => ?_)
  try dsimp only at hr2 ⊢
  have er : r2 = r := (nI_eq (by omega) (by omega)).mp e2.symm
  subst er
  exact hΦ F2 I2 (hI.fr hf) (fun y => hf.2 _ _ (by omega) (by omega) (by omega))
theorem lw_imageN (hI : lwI S F I P w h kd ko nr rp) {x y p q : Int32} (hx : ¬ vHR 1 (fun _ => w) (fun _ => h) x y) (hΦ : Φ (some (.int (-1))) S F I J P) : mhOk l K mX6_image [.ref 0, .int x, .int y, .int p, .int q] S F I J P Φ :=
  sp_X6_image hI.k4 hI.hc hI.pn (fun _ => hΦ) (fun q _ => absurd q hx) (fun j r2 hj hr2 e1 e2 _ F2 I2 hf => absurd ⟨j, hj, e1, r2, hr2, e2⟩ hx)
theorem lw_imageB (hI : lwI S F I P w h kd ko nr rp) {r : Nat} {p q : Int32} (hr : r < gRooms w h) (hb : ¬ mhTurn p q) (hΦ : Φ (some (.int (-2))) S F I J P) : mhOk l K mX6_image [.ref 0, .int 0, .int (nI r), .int p, .int q] S F I J P Φ :=
  sp_X6_image hI.k4 hI.hc hI.pn (fun hn => absurd (lwI.hr hr) hn) (fun _ _ => hΦ) (fun j r2 hj hr2 e1 e2 hA F2 I2 hf => absurd hA hb)
theorem lw_spots (hI : lwI S F I P w h kd ko nr rp) (hΦ : ∀ F2 I2, lwI S F2 I2 P w h kd ko nr rp → (∀ y, I2 33 y = I 33 y) → Φ (some (.int (spSt w h 0 kd rp nr))) S F2 I2 J P) : mhOk l K mX6_spots [.ref 0, .int 0] S F I J P Φ := by
  obtain ⟨aR, hR⟩ := hI.2.2.2.2.2.1
  refine sp_X6_spots hI.k4 hI.hc hI.pn hR hI.2.2.2.2.2.2 (fun hn => absurd ⟨0, by omega, rfl⟩ hn) (fun j hj e F2 I2 hf => ?_)
  obtain rfl := nI_at0 hj e
  exact hΦ F2 I2 (hI.fr hf) (fun y => hf.2 _ _ (by omega) (by omega) (by omega))
theorem lw_report (hI : lwI S F I P w h kd ko nr rp) {r : Nat} {p q saw : Int32} (hr : r < gRooms w h) (ht : mhTurn p q) (hz : saw = 0 ∨ saw = 1) (hn12 : nr < 12) (hΦ : ∀ S2 F2 P2, lwI S2 F2 I P2 w h kd ko (nr + 1) (fun k => if k = nr then (0, r, p, q, saw) else rp k) → exS S S2 → Φ (some (.int (nI nr))) S2 F2 I J P2) : mhOk l K mX6_report [.ref 0, .int 0, .int (nI r), .int p, .int q, .int saw] S F I J P Φ := by
  have hg := gBd hI.g
  obtain ⟨h1, ⟨a1, a2, a3, a4⟩, h3, h4, h5, ⟨aR, r1, r2, r3⟩, h7⟩ := id hI
  have hlen : 33 < S.length := (List.getElem?_eq_some_iff.mp h5).1
  refine sp_X6_report hI.hc r1 r2 hz (fun hn => absurd (lwI.hr hr) hn) (fun _ hn => absurd ht hn) (fun _ _ e => by omega) (fun j r2' hj hr2 e1 e2 _ _ S2 F2 eS eF e8 f0 f1 f2 f3 f4 => ?_)
  try dsimp only at hr2
  have er : r2' = r := (nI_eq (by omega) (by omega)).mp e2.symm
  subst er
  have hs : exS S S2 := by rw [eS]; exact exS.app
  refine hΦ S2 F2 _ ⟨h1.ex hs, ⟨a1.ex hs, a2, (eF _ _ (by omega) (by omega)).trans a3, fun j hj => ⟨(mhUP_ne (by omega)).trans (a4 j hj).1, ?_⟩⟩, h3, ⟨hs _ _ h4.1, h4.2⟩, hs _ _ h5, ⟨fun k => if k = nr then S.length else aR k, by omega, e8, fun k hk => ?_⟩, fun k hk => ?_⟩ hs
  · obtain ⟨q1, q2, q3, q4, q5, q6, q7⟩ := (a4 j hj).2
    exact ⟨q1.ex hs, q2, (eF 22 _ (by omega) (by omega)).trans q3, (eF 22 _ (by omega) (by omega)).trans q4, (eF 22 _ (by omega) (by omega)).trans q5, (eF 22 _ (by omega) (by omega)).trans q6, q7⟩
  · by_cases e : k = nr
    · subst e
      simp only [if_true]
      refine ⟨by simp [mhUP], ?_, by omega, f0.trans rfl, f1.trans e2, f2, f3, f4⟩
      unfold mhKX2
      rw [eS, List.getElem?_append_right (Nat.le_refl _), Nat.sub_self]
      rfl
    · have hk2 : k < nr := by omega
      obtain ⟨q1, q2, q3, q4, q5, q6, q7, q8⟩ := r3 k hk2
      have hlt : aR k < S.length := (List.getElem?_eq_some_iff.mp (shX2_0 q2)).1
      simp only [if_neg e]
      refine ⟨?_, q2.ex hs, q3, (eF _ _ hlt (by omega)).trans q4, (eF _ _ hlt (by omega)).trans q5, (eF _ _ hlt (by omega)).trans q6, (eF _ _ hlt (by omega)).trans q7, (eF _ _ hlt (by omega)).trans q8⟩
      unfold mhUP
      rw [if_neg (fun z => e ((nI_eq (by omega) (by omega)).mp z.2))]
      exact q1
  · by_cases e : k = nr
    · subst e
      simp only [if_true]
      exact ⟨by omega, hr2, ht⟩
    · simp only [if_neg e]
      exact h7 k (by omega)
theorem lw_pane (hI : lwI S F I P w h kd ko nr rp) {k : Nat} {v : Int32} (hk : k < gSides w h) (hv : mhSo v) (hΦ : ∀ I2, lwI S F I2 P w h (fun x => if x = k then v else kd x) ko nr rp → (∀ y, I2 33 y = I 33 y) → Φ (some (.int (kd k))) S F I2 J P) : mhOk l K mX6_pane [.ref 0, .int 0, .int (nI k), .int v] S F I J P Φ := by
  have hg := gBd hI.g
  refine sp_X6_pane hI.hc (fun hn => absurd ⟨0, by omega, rfl, k, hk, rfl⟩ hn) (fun j r hj hr e1 e2 hn => absurd hv hn) (fun j r hj hr e1 e2 _ => ?_)
  obtain rfl := nI_at0 hj e1
  try dsimp only at hr ⊢
  have er : r = k := (nI_eq (by omega) (by omega)).mp e2.symm
  subst er
  have hp := hI.2.2.1
  have key : ∀ I2 : mhI, (∀ c y, c ≠ 23 → c ≠ 24 → I2 c y = I c y) → I2 23 (nI r) = v → (∀ x, x < gSides w h → x ≠ r → I2 23 (nI x) = I 23 (nI x)) → Φ (some (.int (I 23 (nI r)))) S F I2 J P := by
    intro I2 hf hv2 ho
    refine mh_cl (hΦ I2 ?_ (fun y => hf _ _ (by omega) (by omega))) (hp r hk).symm
    obtain ⟨h1, ⟨a1, a2, a3, a4⟩, h3, h4, h5, h6, h7⟩ := hI
    refine ⟨h1, ⟨a1, a2, a3, fun j hj => ⟨(a4 j hj).1, ?_⟩⟩, fun x hx => ?_, h4.to (fun y => hf _ _ (by omega) (by omega)), h5, h6, h7⟩
    · obtain ⟨q1, q2, q3, q4, q5, q6, q7, q8, q9, q10, q11⟩ := (a4 j hj).2
      exact ⟨q1, q2, q3, q4, q5, q6, fun b hb y => (hf (22 + 3 + b) y (by omega) (by omega)).trans (q7 b hb y), (hf 32 _ (by omega) (by omega)).trans q8, (hf 32 _ (by omega) (by omega)).trans q9, (hf 32 _ (by omega) (by omega)).trans q10, q11⟩
    · show I2 23 (nI x) = _
      by_cases e : x = r
      · subst e
        simp only [if_true]
        exact hv2
      · simp only [if_neg e]
        exact (ho x hx e).trans (hp x hx)
  show Φ (some (.int (I 23 (nI r)))) S F (if I 23 (nI r) = v then mhUI I 23 (nI r) v else mhUI (mhUI I 23 (nI r) v) 24 (nI r) 0) J P
  split
  · refine key _ (fun c y h1 h2 => mhUI_ne h1) (by simp [mhUI]) (fun x hx hne => ?_)
    unfold mhUI
    rw [if_neg (fun z => hne ((nI_eq (by omega) (by omega)).mp z.2))]
  · refine key _ (fun c y h1 h2 => (mhUI_ne h2).trans (mhUI_ne h1)) (by simp (decide := true) [mhUI]) (fun x hx hne => ?_)
    rw [mhUI_ne (by omega)]
    unfold mhUI
    rw [if_neg (fun z => hne ((nI_eq (by omega) (by omega)).mp z.2))]
end LWC
/-! spots, bit by bit -/
theorem sp_bit (X b : Int32) : (X &&& b) &&& (b ^^^ (-1)) = 0 := by
  apply Int32.toBitVec_inj.mp
  simp only [Int32.toBitVec_and, Int32.toBitVec_xor]
  rw [show (-1 : Int32).toBitVec = BitVec.allOnes 32 by decide, BitVec.xor_allOnes, BitVec.and_assoc]
  have e : b.toBitVec &&& ~~~b.toBitVec = 0#32 := by
    ext i hi
    simp
  rw [e]
  simp
theorem sp_le (m x : Int32) (hm : 0 ≤ m) : m &&& x ≤ m := by
  have h0 : m.toBitVec.msb = false := by
    have := Int32.le_iff_toInt_le.mp hm
    have z : (0 : Int32).toInt = 0 := rfl
    rw [z] at this
    have e : m.toInt = m.toBitVec.toInt := rfl
    rw [e, BitVec.toInt_eq_msb_cond] at this
    cases c : m.toBitVec.msb with
    | false => rfl
    | true =>
      rw [c, if_pos rfl] at this
      have := m.toBitVec.isLt
      omega
  have h1 : (m &&& x).toBitVec.msb = false := by rw [Int32.toBitVec_and, BitVec.msb_and, h0, Bool.false_and]
  rw [Int32.le_iff_toInt_le]
  show BitVec.toInt _ ≤ BitVec.toInt _
  rw [BitVec.toInt_eq_msb_cond, BitVec.toInt_eq_msb_cond, h0, h1]
  simp only [Bool.false_eq_true, if_false]
  rw [Int32.toBitVec_and, BitVec.toNat_and]
  exact Int.ofNat_le.mpr Nat.and_le_left
theorem spMl : ∀ w ∈ [1, 2, 3, 4], ∀ h ∈ [1, 2, 3], (0 : Int32) ≤ (1 <<< (nI (gRooms w h) &&& 31)) - 1 := by decide +kernel
theorem spSt_in {w h : Nat} {kd : Nat → Int32} {rp : mhRp} : ∀ n, ∃ x, spSt w h 0 kd rp n = ((1 <<< (nI (gRooms w h) &&& 31)) - 1) &&& x
  | 0 => ⟨-1, by
    show (1 <<< (nI (gRooms w h) &&& 31)) - 1 = _
    apply Int32.toBitVec_inj.mp
    rw [Int32.toBitVec_and, show (-1 : Int32).toBitVec = BitVec.allOnes 32 by decide, BitVec.and_allOnes]⟩
  | n + 1 => by
    obtain ⟨x, hx⟩ := spSt_in (w := w) (h := h) (kd := kd) (rp := rp) n
    unfold spSt
    split
    · rw [hx, Int32.and_assoc]
      exact ⟨_, rfl⟩
    · exact ⟨x, hx⟩
theorem spSt_le {w h : Nat} (g : gOk w h) {kd : Nat → Int32} {rp : mhRp} (n : Nat) : spSt w h 0 kd rp n ≤ (1 <<< (nI (gRooms w h) &&& 31)) - 1 := by
  obtain ⟨x, hx⟩ := spSt_in (w := w) (h := h) (kd := kd) (rp := rp) n
  rw [hx]
  exact sp_le _ _ (spMl w (gWl g.1 g.2.1) h (gHl g.2.2.1 g.2.2.2))
theorem spSt_last {w h n r q : Nat} {kd : Nat → Int32} {rp : mhRp} {p qq : Int32} (hq : q < 2 ^ 31) (e : sgIm w h kd r p qq = nI q) : spSt w h 0 kd (fun k => if k = n then (0, r, p, qq, 1) else rp k) (n + 1) &&& ((1 <<< (nI q &&& 31)) ^^^ (-1)) = 0 := by
  have e1 : spFit w h kd r p qq 1 = 1 <<< (nI q &&& 31) := by
    unfold spFit
    rw [if_neg (by decide), e, if_neg (mh_n9 hq)]
  unfold spSt
  simp only [if_true, e1]
  exact sp_bit _ _
