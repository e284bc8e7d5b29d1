/-! a crossing, a mirror, the start; in the law's coordinates -/
def lnCD (D : Nat → Int) (k : Nat) : Nat → Int := fun j => if j = k then -(D j) else 3 - D j
def lnCR (R : Nat → Int) : Nat → Int := fun j => -(R j)
def lnSw (k j : Nat) : Nat := if j = k then j else 3 - k - j
theorem ln3 {k : Nat} (hk : k < 3) : k = 0 ∨ k = 1 ∨ k = 2 := by omega
theorem lnSw_lt {k j : Nat} (hk : k < 3) (hj : j < 3) : lnSw k j < 3 := by
  rcases ln3 hk with rfl | rfl | rfl <;> rcases ln3 hj with rfl | rfl | rfl <;> decide
theorem lnSw_sw {k j : Nat} (hk : k < 3) (hj : j < 3) : lnSw k (lnSw k j) = j := by
  rcases ln3 hk with rfl | rfl | rfl <;> rcases ln3 hj with rfl | rfl | rfl <;> decide
section LNP
variable {p t f : Nat → Nat} {D R : Nat → Int} {tu td : Int}
theorem lnOk.congr {D' R' : Nat → Int} {f' : Nat → Nat} (h : lnOk p t f D R tu td) (hf : ∀ x, x < 3 → f' x = f x) (hD : ∀ x, x < 3 → D' x = D x) (hR : ∀ x, x < 3 → R' x = R x) : lnOk p t f' D' R' tu td := by
  obtain ⟨⟨a1, a2, a3⟩, ⟨b1, b2⟩, c, d1, d2, d3⟩ := h
  refine ⟨⟨by rw [hD 0 (by omega), hD 1 (by omega), hD 2 (by omega)]; exact a1, by rw [hR 0 (by omega), hR 1 (by omega), hR 2 (by omega)]; exact a2, by rw [hR 0 (by omega), hR 1 (by omega)]; exact a3⟩, ⟨fun x hx => by rw [hf x hx]; exact b1 x hx, fun x y hx hy e => b2 x y hx hy (by rw [← hf x hx, ← hf y hy]; exact e)⟩, fun x hx => ?_, d1, d2, fun k hk => ?_⟩
  · rw [hf x hx, hD _ (b1 x hx), hR _ (b1 x hx)]
    exact c x hx
  · rw [hD k hk, hR k hk]
    exact d3 k hk
theorem lnOk.cross (h : lnOk p t f D R tu td) {a : Nat} (ha : a < 3) (hm : lnMin D R (f a)) : lnOk p (sgUp t a) f (lnCD D (f a)) (lnCR R) (D (f a)) (-R (f a)) := by
  have hk := hm.1
  have hR := hm.2.1
  have hma := h.2.2.1 a ha
  have e := hma.1 hR
  obtain ⟨s1, s2, s3⟩ := h.1
  refine ⟨⟨?_, ?_, ?_⟩, h.2.1, fun b hb => ?_, by omega, by omega, fun j hj => ?_⟩
  · rcases ln3 hk with q | q | q <;> (rw [q]; simp (decide := true) only [lnCD, if_true, if_false]; omega)
  · simp only [lnCR]; omega
  · simp only [lnCR]; omega
  · by_cases hba : b = a
    · subst hba
      unfold sgUp lnCD lnCR lnM
      rw [if_pos rfl, if_pos rfl]
      refine ⟨fun q => by omega, fun q => ⟨by omega, ?_⟩, fun q => by omega⟩
      rw [Int.natCast_add]
      omega
    · have hne : ¬ f b = f a := fun q => hba (h.2.1.2 b a hb ha q)
      have hmb := h.2.2.1 b hb
      unfold sgUp lnCD lnCR lnM
      rw [if_neg hba, if_neg hne]
      obtain ⟨q1, q2, q3⟩ := hmb
      refine ⟨fun q => ?_, fun q => ?_, fun q => ?_⟩
      · have := q2 (by omega); omega
      · have := q1 (by omega); omega
      · have := q3 (by omega); exact ⟨this.1, by omega⟩
  · unfold lnCD lnCR
    by_cases hjk : j = f a
    · subst hjk
      rw [if_pos rfl]
      refine ⟨?_, fun q => by omega⟩
      grind
    · rw [if_neg hjk]
      have hf := h.farS hm hj hjk
      refine ⟨by grind, fun q => ?_⟩
      have := hf.2 (by omega)
      grind
theorem lnOk.fold (h : lnOk p t f D R tu td) {k : Nat} (hk : k < 3) : lnOk p t (fun x => lnSw k (f x)) (fun j => D (lnSw k j)) (fun j => R (lnSw k j)) tu td := by
  obtain ⟨⟨s1, s2, s3⟩, ⟨b1, b2⟩, c, d1, d2, d3⟩ := h
  refine ⟨⟨?_, ?_, ?_⟩, ⟨fun x hx => lnSw_lt hk (b1 x hx), fun x y hx hy e => b2 x y hx hy ?_⟩, fun x hx => ?_, d1, d2, fun j hj => d3 _ (lnSw_lt hk hj)⟩
  · rcases ln3 hk with q | q | q <;> (rw [q]; simp (decide := true) only [lnSw, if_true, if_false, Nat.reduceSub]; omega)
  · rcases ln3 hk with q | q | q <;> (rw [q]; simp (decide := true) only [lnSw, if_true, if_false, Nat.reduceSub]; omega)
  · rcases ln3 hk with q | q | q <;> (rw [q]; simp (decide := true) only [lnSw, if_true, if_false, Nat.reduceSub]; omega)
  · have : lnSw k (lnSw k (f x)) = lnSw k (lnSw k (f y)) := by dsimp only at e; rw [e]
    rwa [lnSw_sw hk (b1 x hx), lnSw_sw hk (b1 y hy)] at this
  · dsimp only
    rw [lnSw_sw hk (b1 x hx)]
    exact c x hx
theorem sgFold_sw (h : lnPm f) {a x : Nat} (ha : a < 3) (hx : x < 3) : sgFold f a x = lnSw (f a) (f x) := by
  have h0 := h.1 0 (by omega)
  have h1 := h.1 1 (by omega)
  have h2 := h.1 2 (by omega)
  have e01 : f 0 ≠ f 1 := fun e => by have := h.2 0 1 (by omega) (by omega) e; omega
  have e02 : f 0 ≠ f 2 := fun e => by have := h.2 0 2 (by omega) (by omega) e; omega
  have e12 : f 1 ≠ f 2 := fun e => by have := h.2 1 2 (by omega) (by omega) e; omega
  unfold sgFold lnSw
  rcases ln3 ha with rfl | rfl | rfl <;> rcases ln3 hx with rfl | rfl | rfl <;> simp (decide := true) only [if_true, if_false, Nat.reduceAdd, Nat.reduceMod] <;> (try split) <;> omega
/-- whether a middle may be at the end -/
def lnC (D R : Nat → Int) : Prop := (D 0 + R 0) % 3 = (D 1 + R 1) % 3 ∧ ¬ (D 0 + R 0) % 3 = 0
theorem lnC.congr {D' R' : Nat → Int} (hD : ∀ x, x < 3 → D' x = D x) (hR : ∀ x, x < 3 → R' x = R x) : lnC D' R' ↔ lnC D R := by
  unfold lnC
  rw [hD 0 (by omega), hD 1 (by omega), hR 0 (by omega), hR 1 (by omega)]
theorem lnC.cross (h : lnSum D R) {k : Nat} (hk : k < 3) : lnC (lnCD D k) (lnCR R) ↔ lnC D R := by
  obtain ⟨s1, s2, s3⟩ := h
  unfold lnC lnCD lnCR
  rcases ln3 hk with rfl | rfl | rfl <;> simp (decide := true) only [if_true, if_false] <;> omega
theorem lnC.fold (h : lnSum D R) {k : Nat} (hk : k < 3) : lnC (fun j => D (lnSw k j)) (fun j => R (lnSw k j)) ↔ lnC D R := by
  obtain ⟨s1, s2, s3⟩ := h
  unfold lnC
  rcases ln3 hk with rfl | rfl | rfl <;> simp (decide := true) only [lnSw, if_true, if_false, Nat.reduceSub] <;> omega
/-- behind the last crossing ahead of time 1 -/
theorem lnOk.mid (h : lnOk p t f D R tu td) {k : Nat} (hb : (lnF D R 3).1 = some k) (hge : ¬ D k < -R k) (hlt : tu < td) : (D 0 + R 0 = 1 ∧ D 1 + R 1 = 1) ↔ lnC D R := by
  obtain ⟨k', e, k1, k2, k3⟩ := h.f3
  rw [hb] at e
  cases e
  have hE : ∀ j, j < 3 → 0 ≤ D j + R j := fun j hj => by
    by_cases q : R j < 0
    · have h1 := k3 j hj q
      have h2 : (-R k) * (-R j) ≤ D k * (-R j) := Int.mul_le_mul_of_nonneg_right (by omega) (by omega)
      have : -R j ≤ D j := rt_ce (b := -R k) (by omega) (by grind)
      omega
    · have h1 := (h.2.2.2.2.2 j hj).1
      have h2 : 0 ≤ R j * (td - tu) := Int.mul_nonneg (by omega) (by omega)
      refine rt_ce h.2.2.2.1 ?_
      grind
  have h0 := hE 0 (by omega)
  have h1 := hE 1 (by omega)
  have h2 := hE 2 (by omega)
  obtain ⟨s1, s2, s3⟩ := h.1
  unfold lnC
  omega
end LNP
/-! the law's coordinates -/
def lnE (r d : Nat) : Int := if r % 2 = 0 then (if d = 2 then -1 else 1) else (if d = 2 then 1 else -1)
def lnS (au av : Int) (d : Nat) : Int := if d = 0 then av else if d = 1 then au else au + av
def lnIs (w r d : Nat) : Int := if d = 0 then 3 * ((r / 2 / w : Nat) : Int) + 3 * ((r % 2 : Nat) : Int) else if d = 1 then 3 * ((r / 2 % w : Nat) : Int) + 3 * ((r % 2 : Nat) : Int) else 3 * ((r / 2 % w : Nat) : Int) + 3 * ((r / 2 / w : Nat) : Int) + 3
def lnD (w r : Nat) (au av : Int) : Nat → Int := fun d => lnE r d * (lnS au av d - lnIs w r d)
def lnR (r : Nat) (bu bv : Int) : Nat → Int := fun d => lnE r d * lnS bu bv d
theorem gLl : ∀ w ∈ [1, 2, 3, 4], ∀ h ∈ [1, 2, 3], ∀ r ∈ List.range (gRooms w h), ∀ k ∈ [0, 1, 2], gB w h r k = -9 ∨ ∃ q ∈ List.range (gRooms w h), gB w h r k = nI q ∧ q % 2 = 1 - r % 2 ∧ ∀ j ∈ [0, 1, 2], lnIs w q j = lnIs w r j + (if j = k then 0 else 3 * lnE r j) := by decide +kernel
theorem gL {w h r k : Nat} (g : gOk w h) (hr : r < gRooms w h) (hk : k < 3) (hb : ¬ gB w h r k = -9) : ∃ q, q < gRooms w h ∧ gB w h r k = nI q ∧ q % 2 = 1 - r % 2 ∧ ∀ j, j < 3 → lnIs w q j = lnIs w r j + (if j = k then 0 else 3 * lnE r j) := by
  rcases gLl w (gWl g.1 g.2.1) h (gHl g.2.2.1 g.2.2.2) r (List.mem_range.mpr hr) k (gDl hk) with e | ⟨q, h1, h2, h3, h4⟩
  · exact absurd e hb
  · exact ⟨q, List.mem_range.mp h1, h2, h3, fun j hj => h4 j (gDl hj)⟩
theorem lnE_q {r q j : Nat} (h : q % 2 = 1 - r % 2) : lnE q j = -(lnE r j) := by
  unfold lnE
  rcases (show r % 2 = 0 ∨ r % 2 = 1 by omega) with e | e <;> (rw [e] at h; rw [h, e]; simp (decide := true) only [if_true, if_false]; split <;> rfl)
theorem lnE_1 (r j : Nat) : lnE r j = 1 ∨ lnE r j = -1 := by
  unfold lnE
  split <;> split <;> omega
theorem lnD_q {w r q k j : Nat} {au av : Int} (hq : q % 2 = 1 - r % 2) (h : lnIs w q j = lnIs w r j + (if j = k then 0 else 3 * lnE r j)) : lnD w q au av j = lnCD (lnD w r au av) k j := by
  unfold lnCD lnD
  rw [lnE_q hq, h]
  rcases lnE_1 r j with e | e <;> (rw [e]; split <;> omega)
theorem lnR_q {r q j : Nat} {bu bv : Int} (hq : q % 2 = 1 - r % 2) : lnR q bu bv j = lnCR (lnR r bu bv) j := by
  unfold lnCR lnR
  rw [lnE_q hq, Int.neg_mul]
def mrU (k : Nat) (au av ln : Int) : Int := if k = 0 then au + av - ln else if k = 1 then 2 * ln - au else ln - av
def mrV (k : Nat) (au av ln : Int) : Int := if k = 0 then 2 * ln - av else if k = 1 then av + au - ln else ln - au
def mrBU (k : Nat) (bu bv : Int) : Int := if k = 0 then bu + bv else if k = 1 then -bu else -bv
def mrBV (k : Nat) (bu bv : Int) : Int := if k = 0 then -bv else if k = 1 then bv + bu else -bu
theorem lnD_m {w r k j : Nat} {au av : Int} (hk : k < 3) (hj : j < 3) : lnD w r (mrU k au av (lnIs w r k)) (mrV k au av (lnIs w r k)) j = lnCD (lnD w r au av) k (lnSw k j) := by
  unfold lnCD lnD lnSw lnE lnS mrU mrV lnIs
  rcases ln3 hk with rfl | rfl | rfl <;> rcases ln3 hj with rfl | rfl | rfl <;> rcases (show r % 2 = 0 ∨ r % 2 = 1 by omega) with e | e <;> simp (decide := true) only [e, if_true, if_false] <;> omega
theorem lnR_m {r k j : Nat} {bu bv : Int} (hk : k < 3) (hj : j < 3) : lnR r (mrBU k bu bv) (mrBV k bu bv) j = lnCR (lnR r bu bv) (lnSw k j) := by
  unfold lnCR lnR lnSw lnE lnS mrBU mrBV
  rcases ln3 hk with rfl | rfl | rfl <;> rcases ln3 hj with rfl | rfl | rfl <;> rcases (show r % 2 = 0 ∨ r % 2 = 1 by omega) with e | e <;> simp (decide := true) only [e, if_true, if_false] <;> omega
