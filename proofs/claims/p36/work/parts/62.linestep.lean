/-! the line of the law against the line of the class -/
def lnM (p t : Nat) (D R : Int) : Prop := (R < 0 → (p : Int) = -R ∧ (t : Int) = D) ∧ (0 < R → (p : Int) = R ∧ (t : Int) = 3 - D) ∧ (R = 0 → p = 0 ∧ (D = 1 ∨ D = 2))
def lnSum (D R : Nat → Int) : Prop := D 0 + D 1 + D 2 = 3 ∧ R 0 + R 1 + R 2 = 0 ∧ ¬ (R 0 = 0 ∧ R 1 = 0)
def lnPm (f : Nat → Nat) : Prop := (∀ a, a < 3 → f a < 3) ∧ ∀ a b, a < 3 → b < 3 → f a = f b → a = b
def lnAt (D R : Nat → Int) (tu td : Int) : Prop := 0 < td ∧ 0 ≤ tu ∧ ∀ k, k < 3 → 0 ≤ D k * td + R k * tu ∧ (R k < 0 → 0 < D k * td + R k * tu)
def lnOk (p t f : Nat → Nat) (D R : Nat → Int) (tu td : Int) : Prop := lnSum D R ∧ lnPm f ∧ (∀ a, a < 3 → lnM (p a) (t a) (D (f a)) (R (f a))) ∧ lnAt D R tu td
theorem lnPm.on {f : Nat → Nat} (h : lnPm f) {k : Nat} (hk : k < 3) : ∃ a, a < 3 ∧ f a = k := by
  have h0 := h.1 0 (by omega)
  have h1 := h.1 1 (by omega)
  have h2 := h.1 2 (by omega)
  have e01 : f 0 ≠ f 1 := fun e => by have := h.2 0 1 (by omega) (by omega) e; omega
  have e02 : f 0 ≠ f 2 := fun e => by have := h.2 0 2 (by omega) (by omega) e; omega
  have e12 : f 1 ≠ f 2 := fun e => by have := h.2 1 2 (by omega) (by omega) e; omega
  by_cases c0 : f 0 = k
  · exact ⟨0, by omega, c0⟩
  by_cases c1 : f 1 = k
  · exact ⟨1, by omega, c1⟩
  exact ⟨2, by omega, by omega⟩
/-- the third side -/
theorem lnThird {D R : Nat → Int} (h : lnSum D R) {j k : Nat} (hj : j < 3) (hk : k < 3) (hne : j ≠ k) : ∃ i, i < 3 ∧ i ≠ j ∧ i ≠ k ∧ D j + D k + D i = 3 ∧ R j + R k + R i = 0 := by
  obtain ⟨h1, h2, -⟩ := h
  rcases (show (j = 0 ∨ j = 1 ∨ j = 2) by omega) with rfl | rfl | rfl <;> rcases (show (k = 0 ∨ k = 1 ∨ k = 2) by omega) with rfl | rfl | rfl
  · omega
  · exact ⟨2, by omega, by omega, by omega, by omega, by omega⟩
  · exact ⟨1, by omega, by omega, by omega, by omega, by omega⟩
  · exact ⟨2, by omega, by omega, by omega, by omega, by omega⟩
  · omega
  · exact ⟨0, by omega, by omega, by omega, by omega, by omega⟩
  · exact ⟨1, by omega, by omega, by omega, by omega, by omega⟩
  · exact ⟨0, by omega, by omega, by omega, by omega, by omega⟩
  · omega
theorem lnSum.neg {D R : Nat → Int} (h : lnSum D R) : R 0 < 0 ∨ R 1 < 0 ∨ R 2 < 0 := by
  obtain ⟨h1, h2, h3⟩ := h
  omega
/-- at the time at which the side k is come to, the side i isn't behind -/
theorem lnX_ge {dk di rk ri tu td : Int} (hk : rk < 0) (htd : 0 < td) (htu : 0 ≤ tu) (ek : 0 < dk * td + rk * tu) (ei : 0 ≤ di * td + ri * tu) (hz : ri = 0 → 1 ≤ di) (hm : ri < 0 → dk * (-ri) ≤ di * (-rk)) : 0 ≤ -rk * di + dk * ri ∧ (¬ ri < 0 → 0 < -rk * di + dk * ri) := by
  have hk' : 0 < -rk := by omega
  by_cases c : ri < 0
  · have := hm c
    exact ⟨by grind, fun n => absurd c n⟩
  · have key : 0 < -rk * di + dk * ri := by
      by_cases z : ri = 0
      · have h1 := Int.mul_pos hk' (show 0 < di by have := hz z; omega)
        rw [z, Int.mul_zero]
        omega
      · have h1 := Int.mul_pos (show 0 < ri by omega) ek
        have h2 := Int.mul_nonneg (Int.le_of_lt hk') ei
        refine rt_c htd ?_
        grind
    exact ⟨Int.le_of_lt key, fun _ => key⟩
theorem lnM.z {p t : Nat} {D R : Int} (h : lnM p t D R) (hR : R = 0) : 1 ≤ D := by
  rcases (h.2.2 hR).2 with e | e <;> omega
theorem lnM.p0 {p t : Nat} {D R : Int} (h : lnM p t D R) : R = 0 ↔ p = 0 := by
  obtain ⟨h1, h2, h3⟩ := h
  constructor
  · exact fun e => (h3 e).1
  · intro e
    rcases Int.lt_trichotomy R 0 with q | q | q
    · have := (h1 q).1; omega
    · exact q
    · have := (h2 q).1; omega
section LNO
variable {p t f : Nat → Nat} {D R : Nat → Int} {tu td : Int}
theorem lnOk.m (h : lnOk p t f D R tu td) {k : Nat} (hk : k < 3) : ∃ a, a < 3 ∧ f a = k ∧ lnM (p a) (t a) (D k) (R k) := by
  obtain ⟨a, ha, e⟩ := h.2.1.on hk
  exact ⟨a, ha, e, e ▸ h.2.2.1 a ha⟩
theorem lnOk.x (h : lnOk p t f D R tu td) {k i : Nat} (hk : k < 3) (hi : i < 3) (hR : R k < 0) (hm : R i < 0 → D k * (-R i) ≤ D i * (-R k)) : 0 ≤ -R k * D i + D k * R i ∧ (¬ R i < 0 → 0 < -R k * D i + D k * R i) := by
  obtain ⟨a, -, -, ha⟩ := h.m hi
  exact lnX_ge hR h.2.2.2.1 h.2.2.2.2.1 ((h.2.2.2.2.2 k hk).2 hR) (h.2.2.2.2.2 i hi).1 ha.z hm
theorem lnOk.f3 (h : lnOk p t f D R tu td) : ∃ k, (lnF D R 3).1 = some k ∧ k < 3 ∧ R k < 0 ∧ ∀ j, j < 3 → R j < 0 → D k * (-R j) ≤ D j * (-R k) := by
  have hg := lnF_GS D R 3
  cases hb : (lnF D R 3).1 with
  | none =>
    exfalso
    rcases h.1.neg with q | q | q
    · exact lnGS_n hg hb (by omega) q
    · exact lnGS_n hg hb (by omega) q
    · exact lnGS_n hg hb (by omega) q
  | some b =>
    generalize lnF D R 3 = s at *
    obtain ⟨s1, s2⟩ := s
    cases hb
    exact ⟨b, rfl, hg.1, hg.2.1, hg.2.2.1⟩
/-- the nearest one: what goes away isn't sooner -/
theorem lnOk.far (h : lnOk p t f D R tu td) {k : Nat} (hk : k < 3) (hR : R k < 0) (hm : ∀ j, j < 3 → R j < 0 → D k * (-R j) ≤ D j * (-R k)) {j : Nat} (hj : j < 3) (hjR : 0 < R j) : D k * R j ≤ (3 - D j) * (-R k) := by
  obtain ⟨i, hi, h1, h2, h3, h4⟩ := lnThird h.1 hk hj (fun e => by subst e; omega)
  have hx := (h.x hk hi hR (hm i hi)).1
  have e1 : D i = 3 - D k - D j := by omega
  have e2 : R i = 0 - R k - R j := by omega
  rw [e1, e2] at hx
  grind
theorem lnOk.farS (h : lnOk p t f D R tu td) {k : Nat} (hm : lnMin D R k) {j : Nat} (hj : j < 3) (hne : j ≠ k) : 0 ≤ (3 - D j) * (-R k) + -R j * D k ∧ (0 < R j → D k * R j < (3 - D j) * (-R k)) := by
  obtain ⟨hk, hR, hs⟩ := hm
  obtain ⟨i, hi, h1, h2, h3, h4⟩ := lnThird h.1 hk hj (Ne.symm hne)
  have hx := h.x hk hi hR (fun q => Int.le_of_lt (hs i hi h1 q))
  have e1 : D i = 3 - D k - D j := by omega
  have e2 : R i = 0 - R k - R j := by omega
  refine ⟨?_, fun hjR => ?_⟩
  · have hx := hx.1
    rw [e1, e2] at hx
    grind
  · have hx2 : 0 < -R k * D i + D k * R i := by
      by_cases q : R i < 0
      · have := hs i hi h1 q
        grind
      · exact hx.2 q
    rw [e1, e2] at hx2
    grind
theorem lnOk.min (h : lnOk p t f D R tu td) {a : Nat} (ha : a < 3) : sgMin t p a ↔ lnMin D R (f a) := by
  have hk := h.2.1.1 a ha
  have hma := h.2.2.1 a ha
  constructor
  · rintro ⟨-, hp, hs⟩
    dsimp only at hp hs
    have hR0 : ¬ R (f a) = 0 := fun e => by have := hma.p0.mp e; omega
    by_cases hneg : R (f a) < 0
    · have e := hma.1 hneg
      refine ⟨hk, hneg, fun j hj hne hjR => ?_⟩
      obtain ⟨b, hb, eb, hmb⟩ := h.m hj
      have e2 := hmb.1 hjR
      have := hs b hb (fun q => hne (by rw [← eb, q])) (by omega)
      rw [Int.neg_neg, Int.neg_neg, e.1, e.2, e2.1, e2.2] at this
      exact this
    · exfalso
      have hpos : 0 < R (f a) := by omega
      have e := hma.2.1 hpos
      obtain ⟨k, -, k1, k2, k3⟩ := h.f3
      obtain ⟨b, hb, eb, hmb⟩ := h.m k1
      have e2 := hmb.1 k2
      have := hs b hb (fun q => by rw [q] at eb; rw [eb] at hpos; omega) (by omega)
      rw [Int.neg_neg, Int.neg_neg, e.1, e.2, e2.1, e2.2] at this
      have := h.far k1 k2 k3 hk hpos
      omega
  · rintro ⟨-, hR, hs⟩
    have e := hma.1 hR
    refine ⟨ha, by dsimp only; omega, fun d hd hne hpd => ?_⟩
    dsimp only at hpd ⊢
    have hmd := h.2.2.1 d hd
    have hfd := h.2.1.1 d hd
    have hfne : f d ≠ f a := fun q => hne (h.2.1.2 d a hd ha q)
    rw [Int.neg_neg, Int.neg_neg]
    rcases Int.lt_trichotomy (R (f d)) 0 with q | q | q
    · have e2 := hmd.1 q
      rw [e.1, e.2, e2.1, e2.2]
      exact hs _ hfd hfne q
    · have := hmd.p0.mp q
      omega
    · have e2 := hmd.2.1 q
      rw [e.1, e.2, e2.1, e2.2]
      exact (h.farS ⟨hk, hR, hs⟩ hfd hfne).2 q
/-- the law's choice and the class's -/
theorem lnOk.post (h : lnOk p t f D R tu td) (hp : (lnF D R 3).2 = true) : sgNw t p = none := by
  cases hn : sgNw t p with
  | none => rfl
  | some a =>
    have hm := sgNw_min.mp hn
    exact absurd ((h.min hm.1).mp hm) (lnGS_t (lnF_GS D R 3) hp)
theorem lnOk.next (h : lnOk p t f D R tu td) {k : Nat} (hb : (lnF D R 3).1 = some k) (hp : (lnF D R 3).2 = false) : ∃ a, a < 3 ∧ f a = k ∧ sgNw t p = some a ∧ (t a : Int) = D k ∧ (p a : Int) = -R k ∧ lnMin D R k := by
  have hm := lnGS_f (lnF_GS D R 3) hb hp
  obtain ⟨a, ha, ea, hma⟩ := h.m hm.1
  have e := hma.1 hm.2.1
  exact ⟨a, ha, ea, sgNw_min.mpr ((h.min ha).mpr (ea ▸ hm)), e.2, e.1, hm⟩
theorem lnOk.ah (h : lnOk p t f D R tu td) {k : Nat} (hb : (lnF D R 3).1 = some k) : sgAh p t ↔ D k < -R k := by
  obtain ⟨k', e, k1, k2, k3⟩ := h.f3
  rw [hb] at e
  cases e
  constructor
  · rintro ⟨d, hd, hl⟩
    have hmd := h.2.2.1 d hd
    have hfd := h.2.1.1 d hd
    rcases Int.lt_trichotomy (R (f d)) 0 with q | q | q
    · have e2 := hmd.1 q
      have h1 := k3 _ hfd q
      have h2 : D (f d) * (-R k) < (-R (f d)) * (-R k) := Int.mul_lt_mul_of_pos_right (by omega) (by omega)
      refine rt_c (b := -R (f d)) (by omega) ?_
      grind
    · have := hmd.p0.mp q
      omega
    · have e2 := hmd.2.1 q
      have h1 := h.far k1 k2 k3 hfd q
      have h2 : (3 - D (f d)) * (-R k) < R (f d) * (-R k) := Int.mul_lt_mul_of_pos_right (by omega) (by omega)
      refine rt_c (b := R (f d)) (by omega) ?_
      grind
  · intro hl
    obtain ⟨a, ha, ea, hma⟩ := h.m k1
    have e := hma.1 k2
    exact ⟨a, ha, by omega⟩
end LNO
