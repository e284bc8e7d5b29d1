/-! both sides of one heap -/
theorem nI_iv {a b : Nat} (h : nI a = nI b) (ha : a < 2 ^ 31) (hb : b < 2 ^ 31) : a = b := by
  have h1 := nI_toInt ha
  have h2 := nI_toInt hb
  rw [h, h2] at h1
  omega
theorem exS.rfl' {S : List mhS} : exS S S := fun _ _ h => h
/-- the class's houses -/
def cH (S : List mhS) (F : mhF) (I : mhI) (P : mhP) (nh : Nat) (wd hg aH : Nat → Nat) (kd sm : Nat → Nat → Int32) : Prop := mhHC S F I P nh wd hg aH ∧ (∀ j, j < nh → mhPn I (aH j) (wd j) (hg j) (kd j)) ∧ (∀ j, j < nh → smO I (aH j) (wd j) (hg j) (sm j)) ∧ (∀ j j2, j < nh → j2 < nh → j ≠ j2 → aH j + 11 ≤ aH j2 ∨ aH j2 + 11 ≤ aH j)
/-- the reference's houses -/
def rH (S : List mhS) (F : mhF) (I : mhI) (nh : Nat) (wd hg : Nat → Nat) (kd sm : Nat → Nat → Int32) : Prop := mhHR S F I nh wd hg ∧ (∀ j, j < nh → mhKn I j (wd j) (hg j) (kd j)) ∧ (∀ j, j < nh → smM I j (wd j) (hg j) (sm j))
/-- sheets -/
def cS (S : List mhS) (F : mhF) (I : mhI) (P : mhP) (so ln : Nat → Int32) (cl : Nat → Nat → Int32) : Prop := mhSh S F P ∧ ∀ j, j < 4 → F (13 + 2 * j) 1 = so j ∧ (¬ so j = -9 → F (13 + 2 * j) 2 = ln j ∧ ∀ c, c < 60 → I (13 + 2 * j + 1) (nI c) = cl j c)
def rS (I : mhI) (so ln : Nat → Int32) (cl : Nat → Nat → Int32) : Prop := mhSm I ∧ ∀ j, j < 4 → I 22 (nI j) = so j ∧ (¬ so j = -9 → I 23 (nI j) = ln j ∧ ∀ c, c < 60 → I 24 (nI (60 * j + c)) = cl j c)
/-- walkers, apart from all else -/
def cW (S : List mhS) (F : mhF) (I : mhI) (P : mhP) (nw : Nat) (aW : Nat → Nat) (wk : Nat → mhWk) : Prop := mhWC S F I P nw aW wk ∧ ∀ v v2, v < nw → v2 < nw → v ≠ v2 → aW v + 2 ≤ aW v2 ∨ aW v2 + 2 ≤ aW v
def apX (nh : Nat) (aH : Nat → Nat) (nr : Nat) (aR : Nat → Nat) (nw : Nat) (aW : Nat → Nat) : Prop := (∀ v j, v < nw → j < nh → aW v + 2 ≤ aH j ∨ aH j + 11 ≤ aW v) ∧ (∀ k v, k < nr → v < nw → ¬ aR k = aW v) ∧ ∀ k j, k < nr → j < nh → ¬ aR k = aH j
section MHI
variable {S S2 : List mhS} {F F2 : mhF} {I I2 : mhI} {P P2 : mhP} {nh nr np nw : Nat} {wd hg aH aR aW : Nat → Nat} {kd sm cl : Nat → Nat → Int32} {so ln : Nat → Int32} {rp : mhRp} {pf : Nat → Int32} {wk : Nat → mhWk} {tr fa : Int32}
theorem cH.lt (h : cH S F I P nh wd hg aH kd sm) {j : Nat} (hj : j < nh) : 52 ≤ aH j ∧ aH j + 11 ≤ S.length := ⟨(h.1.2.2.2 j hj).2.2.2.2.2.2.2.2.2.2.2, exS.lt (shX1_10 (h.1.2.2.2 j hj).2.1)⟩
theorem mhRC.lt (h : mhRC S F P nr aR rp) {k : Nat} (hk : k < nr) : 52 ≤ aR k ∧ aR k < S.length := ⟨(h.2.2 k hk).2.2.1, exS.lt (shX2_0 (h.2.2 k hk).2.1)⟩
theorem cW.lt (h : cW S F I P nw aW wk) {v : Nat} (hv : v < nw) : 52 ≤ aW v ∧ aW v + 2 ≤ S.length := ⟨(h.1.2.2 v hv).2.2.1, exS.lt (shX5_1 (h.1.2.2 v hv).2.1)⟩
theorem cH.go (h : cH S F I P nh wd hg aH kd sm) (hs : exS S S2) (e7 : F2 0 7 = F 0 7) (eF : ∀ j, j < nh → ∀ k, k < 9 → F2 (aH j) k = F (aH j) k) (eI : ∀ j, j < nh → ∀ t, 1 ≤ t → t ≤ 10 → ¬ (7 ≤ t ∧ t ≤ 9) → ∀ y, I2 (aH j + t) y = I (aH j + t) y) (eP : ∀ j, j < nh → P2 2 (nI j) = P 2 (nI j)) : cH S2 F2 I2 P2 nh wd hg aH kd sm := by
  obtain ⟨⟨a1, a2, a3, a4⟩, b, c, d⟩ := h
  refine ⟨⟨a1.ex hs, a2, e7.trans a3, fun j hj => ⟨(eP j hj).trans (a4 j hj).1, ?_⟩⟩, fun j hj k hk => (eI j hj 1 (by omega) (by omega) (by omega) _).trans (b j hj k hk), fun j hj k hk => (eI j hj 2 (by omega) (by omega) (by omega) _).trans (c j hj k hk), d⟩
  obtain ⟨h1, h2, h3, h4, h5, h6, h7, h8, h9, h10, h11⟩ := (a4 j hj).2
  exact ⟨h1.ex hs, h2, (eF j hj 0 (by omega)).trans h3, (eF j hj 1 (by omega)).trans h4, (eF j hj 2 (by omega)).trans h5, (eF j hj 3 (by omega)).trans h6, fun b hb y => (by rw [Nat.add_assoc]; exact (eI j hj (3 + b) (by omega) (by omega) (by omega) y).trans ((by rw [← Nat.add_assoc]; exact h7 b hb y))), (eI j hj 10 (by omega) (by omega) (by omega) _).trans h8, (eI j hj 10 (by omega) (by omega) (by omega) _).trans h9, (eI j hj 10 (by omega) (by omega) (by omega) _).trans h10, h11⟩
theorem rH.go (h : rH S F I nh wd hg kd sm) (hs : exS S S2) (e5 : F2 21 5 = F 21 5) (eI : ∀ b, 25 ≤ b → b ≤ 28 → ∀ y, I2 b y = I b y) : rH S2 F2 I2 nh wd hg kd sm := by
  obtain ⟨⟨a1, a2, a3, a4⟩, b, c⟩ := h
  exact ⟨⟨a1.ex hs, a2, e5.trans a3, fun j hj => ⟨(a4 j hj).1, (a4 j hj).2.1, (eI 25 (by omega) (by omega) _).trans (a4 j hj).2.2.1, (eI 26 (by omega) (by omega) _).trans (a4 j hj).2.2.2⟩⟩, fun j hj k hk => (eI 27 (by omega) (by omega) _).trans (b j hj k hk), fun j hj k hk => (eI 28 (by omega) (by omega) _).trans (c j hj k hk)⟩
theorem cS.go (h : cS S F I P so ln cl) (hs : exS S S2) (eF : ∀ b k, 13 ≤ b → b ≤ 20 → F2 b k = F b k) (eI : ∀ b, 13 ≤ b → b ≤ 20 → ∀ y, I2 b y = I b y) (eP : ∀ y, P2 1 y = P 1 y) : cS S2 F2 I2 P2 so ln cl := by
  obtain ⟨a, b⟩ := h
  refine ⟨fun j hj => ⟨(eP _).trans (a j hj).1, (a j hj).2.1.ex hs, ?_, ?_⟩, fun j hj => ⟨(eF _ _ (by omega) (by omega)).trans (b j hj).1, fun hz => ⟨(eF _ _ (by omega) (by omega)).trans ((b j hj).2 hz).1, fun c hc => (eI _ (by omega) (by omega) _).trans (((b j hj).2 hz).2 c hc)⟩⟩⟩
  · rw [eF _ _ (by omega) (by omega)]; exact (a j hj).2.2.1
  · rw [eF _ _ (by omega) (by omega)]; exact (a j hj).2.2.2
theorem rS.go (h : rS I so ln cl) (eI : ∀ b, 22 ≤ b → b ≤ 24 → ∀ y, I2 b y = I b y) : rS I2 so ln cl := by
  obtain ⟨a, b⟩ := h
  refine ⟨fun j hj => ?_, fun j hj => ⟨(eI 22 (by omega) (by omega) _).trans (b j hj).1, fun hz => ⟨(eI 23 (by omega) (by omega) _).trans ((b j hj).2 hz).1, fun c hc => (eI 24 (by omega) (by omega) _).trans (((b j hj).2 hz).2 c hc)⟩⟩⟩
  rw [eI 23 (by omega) (by omega)]; exact a j hj
theorem mhRC.go (h : mhRC S F P nr aR rp) (hs : exS S S2) (e8 : F2 0 8 = F 0 8) (eF : ∀ k, k < nr → ∀ t, t < 5 → F2 (aR k) t = F (aR k) t) (eP : ∀ k, k < nr → P2 3 (nI k) = P 3 (nI k)) : mhRC S2 F2 P2 nr aR rp := by
  obtain ⟨a, b, c⟩ := h
  refine ⟨a, e8.trans b, fun k hk => ?_⟩
  obtain ⟨h1, h2, h3, h4, h5, h6, h7, h8⟩ := c k hk
  exact ⟨(eP k hk).trans h1, h2.ex hs, h3, (eF k hk 0 (by omega)).trans h4, (eF k hk 1 (by omega)).trans h5, (eF k hk 2 (by omega)).trans h6, (eF k hk 3 (by omega)).trans h7, (eF k hk 4 (by omega)).trans h8⟩
theorem mhRR.go (h : mhRR F I nr rp) (e : F2 21 20 = F 21 20) (eI : ∀ b, 32 ≤ b → b ≤ 36 → ∀ y, I2 b y = I b y) : mhRR F2 I2 nr rp := by
  obtain ⟨a, b, c⟩ := h
  refine ⟨a, e.trans b, fun k hk => ?_⟩
  obtain ⟨h4, h5, h6, h7, h8⟩ := c k hk
  exact ⟨(eI 32 (by omega) (by omega) _).trans h4, (eI 33 (by omega) (by omega) _).trans h5, (eI 34 (by omega) (by omega) _).trans h6, (eI 35 (by omega) (by omega) _).trans h7, (eI 36 (by omega) (by omega) _).trans h8⟩
theorem mhPh.go (h : mhPh F I np pf) (e : F2 0 10 = F 0 10) (eI : ∀ y, I2 5 y = I 5 y) : mhPh F2 I2 np pf := ⟨h.1, e.trans h.2.1, fun x hx => (eI _).trans (h.2.2 x hx)⟩
theorem mhPm.go (h : mhPm F I np pf) (e : F2 21 26 = F 21 26) (eI : ∀ y, I2 37 y = I 37 y) : mhPm F2 I2 np pf := ⟨h.1, e.trans h.2.1, fun x hx => (eI _).trans (h.2.2 x hx)⟩
theorem cW.go (h : cW S F I P nw aW wk) (hs : exS S S2) (e9 : F2 0 9 = F 0 9) (eF : ∀ v, v < nw → ∀ k, F2 (aW v) k = F (aW v) k) (eI : ∀ v, v < nw → ∀ y, I2 (aW v + 1) y = I (aW v + 1) y) (eP : ∀ v, v < nw → P2 4 (nI v) = P 4 (nI v)) : cW S2 F2 I2 P2 nw aW wk := by
  obtain ⟨⟨a, b, c⟩, d⟩ := h
  refine ⟨⟨a, e9.trans b, fun v hv => ⟨(eP v hv).trans (c v hv).1, ?_⟩⟩, d⟩
  obtain ⟨h1, h2, h3, h4, h5, h6, h7, h8, h9, h10⟩ := (c v hv).2
  exact ⟨h1.ex hs, h2, (eF v hv 0).trans h3, (eF v hv 1).trans h4, (eF v hv 2).trans h5, (eF v hv 3).trans h6, (eF v hv 4).trans h7, (eF v hv 5).trans h8, (eF v hv 6).trans h9, fun k hk => (eI v hv _).trans (h10 k hk)⟩
theorem mhWM.go (h : mhWM F I nw wk) (e : F2 21 28 = F 21 28) (eI : ∀ b, 38 ≤ b → b ≤ 46 → ∀ y, I2 b y = I b y) : mhWM F2 I2 nw wk := by
  obtain ⟨a, b, c⟩ := h
  refine ⟨a, e.trans b, fun v hv => ?_⟩
  obtain ⟨h1, h2, h3, h4, h5, h6, h7, h8, h9⟩ := c v hv
  exact ⟨(eI 38 (by omega) (by omega) _).trans h1, (eI 39 (by omega) (by omega) _).trans h2, (eI 40 (by omega) (by omega) _).trans h3, (eI 41 (by omega) (by omega) _).trans h4, (eI 42 (by omega) (by omega) _).trans h5, (eI 43 (by omega) (by omega) _).trans h6, (eI 44 (by omega) (by omega) _).trans h7, (eI 45 (by omega) (by omega) _).trans h8, fun k hk => (eI 46 (by omega) (by omega) _).trans (h9 k hk)⟩
end MHI
/-- the class's half, the reference's half, what is so of the numbers -/
def mhCI (S : List mhS) (F : mhF) (I : mhI) (P : mhP) (nh : Nat) (wd hg aH : Nat → Nat) (kd sm : Nat → Nat → Int32) (so ln : Nat → Int32) (cl : Nat → Nat → Int32) (nr : Nat) (aR : Nat → Nat) (rp : mhRp) (np : Nat) (pf : Nat → Int32) (nw : Nat) (aW : Nat → Nat) (wk : Nat → mhWk) (tr fa : Int32) : Prop :=
  (mhKX0 S ∧ mhKX4 S) ∧ cH S F I P nh wd hg aH kd sm ∧ cS S F I P so ln cl ∧ mhRC S F P nr aR rp ∧ mhPh F I np pf ∧ cW S F I P nw aW wk ∧ apX nh aH nr aR nw aW ∧ F 0 11 = tr ∧ F 0 12 = fa
def mhRI (S : List mhS) (F : mhF) (I : mhI) (nh : Nat) (wd hg : Nat → Nat) (kd sm : Nat → Nat → Int32) (so ln : Nat → Int32) (cl : Nat → Nat → Int32) (nr : Nat) (rp : mhRp) (np : Nat) (pf : Nat → Int32) (nw : Nat) (wk : Nat → mhWk) (tr fa : Int32) : Prop :=
  rH S F I nh wd hg kd sm ∧ rS I so ln cl ∧ mhRR F I nr rp ∧ mhPm F I np pf ∧ mhWM F I nw wk ∧ F 21 1 = tr ∧ F 21 0 = fa
def mhVI (nh : Nat) (wd hg : Nat → Nat) (nr : Nat) (rp : mhRp) (np : Nat) (pf : Nat → Int32) (nw : Nat) (wk : Nat → mhWk) : Prop := vRp nh wd hg nr rp ∧ vPh np pf ∧ ∀ v, v < nw → vWk nh wd hg (wk v)
def mhIv (S : List mhS) (F : mhF) (I : mhI) (P : mhP) : Prop := ∃ (nh : Nat) (wd hg aH : Nat → Nat) (kd sm : Nat → Nat → Int32) (so ln : Nat → Int32) (cl : Nat → Nat → Int32) (nr : Nat) (aR : Nat → Nat) (rp : mhRp) (np : Nat) (pf : Nat → Int32) (nw : Nat) (aW : Nat → Nat) (wk : Nat → mhWk) (tr fa : Int32), mhCI S F I P nh wd hg aH kd sm so ln cl nr aR rp np pf nw aW wk tr fa ∧ mhRI S F I nh wd hg kd sm so ln cl nr rp np pf nw wk tr fa ∧ mhVI nh wd hg nr rp np pf nw wk ∧ ∀ j a b, nI a = nI b → cl j a = cl j b
section MHI2
variable {S S2 : List mhS} {F F2 : mhF} {I I2 : mhI} {P P2 : mhP} {nh nr np nw : Nat} {wd hg aH aR aW : Nat → Nat} {kd sm cl : Nat → Nat → Int32} {so ln : Nat → Int32} {rp : mhRp} {pf : Nat → Int32} {wk : Nat → mhWk} {tr fa : Int32} {fa2 : Int32}
/-- no change that counts -/
theorem mhCI.go (h : mhCI S F I P nh wd hg aH kd sm so ln cl nr aR rp np pf nw aW wk tr fa) (hF : ∀ b k, b ≠ 6 → b ≠ 10 → b ≠ 21 → ¬ (b = 0 ∧ k = 12) → (∀ j, j < nh → b = aH j → k < 9) → F2 b k = F b k) (hI : ∀ b y, b ≠ 7 → b ≠ 8 → b ≠ 9 → b ≠ 11 → b ≠ 12 → ¬ (22 ≤ b ∧ b ≤ 51) → (∀ j, j < nh → ¬ (aH j + 7 ≤ b ∧ b ≤ aH j + 9)) → I2 b y = I b y) (hf : F2 0 12 = fa2) : mhCI S F2 I2 P nh wd hg aH kd sm so ln cl nr aR rp np pf nw aW wk tr fa2 := by
  obtain ⟨g, a, b, c, d, e, x, t, f⟩ := h
  have La := fun j (hj : j < nh) => a.lt hj
  have Lc := fun k (hk : k < nr) => c.lt hk
  have Le := fun v (hv : v < nw) => e.lt hv
  refine ⟨g, a.go exS.rfl' (hF _ _ (by omega) (by omega) (by omega) (by omega) (fun j hj => ?_)) (fun j hj k hk => hF _ _ ?_ ?_ ?_ ?_ (fun _ _ _ => hk)) (fun j hj t t1 t2 t3 y => hI _ _ ?_ ?_ ?_ ?_ ?_ ?_ (fun j2 hj2 => ?_)) (fun _ _ => rfl), b.go exS.rfl' (fun b k b1 b2 => hF _ _ (by omega) (by omega) (by omega) (by omega) (fun j hj => ?_)) (fun b b1 b2 y => hI _ _ (by omega) (by omega) (by omega) (by omega) (by omega) (by omega) (fun j hj => ?_)) (fun _ => rfl), c.go exS.rfl' (hF _ _ (by omega) (by omega) (by omega) (by omega) (fun j hj => ?_)) (fun k hk t ht => hF _ _ ?_ ?_ ?_ ?_ (fun _ _ _ => by omega)) (fun _ _ => rfl), d.go (hF _ _ (by omega) (by omega) (by omega) (by omega) (fun j hj => ?_)) (fun y => hI _ _ (by omega) (by omega) (by omega) (by omega) (by omega) (by omega) (fun j hj => ?_)), e.go exS.rfl' (hF _ _ (by omega) (by omega) (by omega) (by omega) (fun j hj => ?_)) (fun v hv k => hF _ _ ?_ ?_ ?_ ?_ (fun j hj => ?_)) (fun v hv y => hI _ _ ?_ ?_ ?_ ?_ ?_ ?_ (fun j hj => ?_)) (fun _ _ => rfl), x, (hF _ _ (by omega) (by omega) (by omega) (by omega) (fun j hj => ?_)).trans t, hf⟩
  all_goals first
    | (have := La j hj; omega)
    | (have := Lc k hk; omega)
    | (have := Le v hv; omega)
    | (have := x.1 v j hv hj; have := La j hj; have := Le v hv; omega)
    | (have := La j hj; have := La j2 hj2; by_cases e : j = j2 <;> first | (subst e; omega) | (have := a.2.2.2 j j2 hj hj2 e; omega))
theorem mhRI.go (h : mhRI S F I nh wd hg kd sm so ln cl nr rp np pf nw wk tr fa) (hs : exS S S2) (hF : ∀ k, ¬ k = 0 → ¬ (10 ≤ k ∧ k < 20) → k < 39 → F2 21 k = F 21 k) (hI : ∀ b y, 22 ≤ b → ¬ (29 ≤ b ∧ b ≤ 31) → b ≤ 46 → I2 b y = I b y) (hf : F2 21 0 = fa2) : mhRI S2 F2 I2 nh wd hg kd sm so ln cl nr rp np pf nw wk tr fa2 := by
  obtain ⟨a, b, c, d, e, t, f⟩ := h
  exact ⟨a.go hs (hF _ (by omega) (by omega) (by omega)) (fun b h1 h2 y => hI _ _ (by omega) (by omega) (by omega)), b.go (fun b h1 h2 y => hI _ _ (by omega) (by omega) (by omega)), c.go (hF _ (by omega) (by omega) (by omega)) (fun b h1 h2 y => hI _ _ (by omega) (by omega) (by omega)), d.go (hF _ (by omega) (by omega) (by omega)) (fun y => hI _ _ (by omega) (by omega) (by omega)), e.go (hF _ (by omega) (by omega) (by omega)) (fun b h1 h2 y => hI _ _ (by omega) (by omega) (by omega)), (hF _ (by omega) (by omega) (by omega)).trans t, hf⟩
end MHI2
