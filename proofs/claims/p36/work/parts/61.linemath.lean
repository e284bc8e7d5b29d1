/-! a line that is thrown back, in plain numbers: distances of its start (D) and rates (R) to the three sides of the room it is in -/
theorem rt_c {x y b : Int} (hb : 0 < b) (h : b * x < b * y) : x < y := by
  rcases Int.lt_or_le x y with q | q
  · exact q
  · exact absurd h (Int.not_lt.mpr (Int.mul_le_mul_of_nonneg_left q (Int.le_of_lt hb)))
theorem rt_ce {x y b : Int} (hb : 0 < b) (h : b * x ≤ b * y) : x ≤ y := by
  rcases Int.lt_or_le y x with q | q
  · exact absurd h (Int.not_le.mpr (Int.mul_lt_mul_of_pos_left q hb))
  · exact q
theorem rt_lt {x y z a b c : Int} (ha : 0 < a) (hb : 0 < b) (hc : 0 < c) (h1 : x * b < y * a) (h2 : y * c ≤ z * b) : x * c < z * a := by
  have e1 := Int.mul_lt_mul_of_pos_right h1 hc
  have e2 := Int.mul_le_mul_of_nonneg_right h2 (Int.le_of_lt ha)
  refine rt_c hb ?_
  grind
theorem rt_le {x y z a b c : Int} (ha : 0 < a) (hb : 0 < b) (hc : 0 < c) (h1 : x * b ≤ y * a) (h2 : y * c ≤ z * b) : x * c ≤ z * a := by
  have e1 := Int.mul_le_mul_of_nonneg_right h1 (Int.le_of_lt hc)
  have e2 := Int.mul_le_mul_of_nonneg_right h2 (Int.le_of_lt ha)
  refine rt_ce hb ?_
  grind
theorem rt_le_lt {x y z a b c : Int} (ha : 0 < a) (hb : 0 < b) (hc : 0 < c) (h1 : x * b ≤ y * a) (h2 : y * c < z * b) : x * c < z * a := by
  have e1 := Int.mul_le_mul_of_nonneg_right h1 (Int.le_of_lt hc)
  have e2 := Int.mul_lt_mul_of_pos_right h2 ha
  refine rt_c hb ?_
  grind
/-- the side that is come to next, of those that come nearer -/
def lnMin (D R : Nat → Int) (k : Nat) : Prop := k < 3 ∧ R k < 0 ∧ ∀ j, j < 3 → j ≠ k → R j < 0 → D k * (-R j) < D j * (-R k)
theorem lnMin_un {D R : Nat → Int} {k j : Nat} (h : lnMin D R k) (h2 : lnMin D R j) : k = j := by
  rcases Nat.decEq k j with q | q
  · have a := h.2.2 j h2.1 (Ne.symm q) h2.2.1
    have b := h2.2.2 k h.1 q h.2.1
    omega
  · exact q
/-- what is so of the first n sides: the nearest one, whether another one is as near -/
def lnGS (D R : Nat → Int) (n : Nat) (s : Option Nat × Bool) : Prop := match s.1 with
  | none => ∀ j, j < n → ¬ R j < 0
  | some b => b < n ∧ R b < 0 ∧ (∀ j, j < n → R j < 0 → D b * (-R j) ≤ D j * (-R b)) ∧ (s.2 = false → ∀ j, j < n → j ≠ b → R j < 0 → D b * (-R j) < D j * (-R b)) ∧ (s.2 = true → ∃ j, j < n ∧ j ≠ b ∧ R j < 0 ∧ D b * (-R j) = D j * (-R b))
theorem lnGS_skip {D R : Nat → Int} {n : Nat} {s : Option Nat × Bool} (h : lnGS D R n s) (hn : ¬ R n < 0) : lnGS D R (n + 1) s := by
  obtain ⟨s1, s2⟩ := s
  have cut : ∀ j, j < n + 1 → R j < 0 → j < n := fun j hj hR => by
    rcases Nat.lt_or_ge j n with q | q
    · exact q
    · exact absurd hR (by rw [show j = n by omega]; exact hn)
  cases s1 with
  | none => exact fun j hj hR => h j (cut j hj hR) hR
  | some b =>
    obtain ⟨h1, h2, h3, h4, h5⟩ := h
    exact ⟨Nat.lt_succ_of_lt h1, h2, fun j hj hR => h3 j (cut j hj hR) hR, fun e j hj hne hR => h4 e j (cut j hj hR) hne hR, fun e => by
      obtain ⟨j, a1, a2, a3, a4⟩ := h5 e
      exact ⟨j, Nat.lt_succ_of_lt a1, a2, a3, a4⟩⟩
theorem lnGS_first {D R : Nat → Int} {n : Nat} {s : Option Nat × Bool} (h : lnGS D R n s) (hs : s.1 = none) (hn : R n < 0) : lnGS D R (n + 1) (some n, false) := by
  obtain ⟨s1, s2⟩ := s
  cases hs
  have cut : ∀ j, j < n + 1 → R j < 0 → j = n := fun j hj hR => by
    rcases Nat.lt_or_ge j n with q | q
    · exact absurd hR (h j q)
    · omega
  exact ⟨Nat.lt_succ_self n, hn, fun j hj hR => by rw [cut j hj hR]; exact Int.le_refl _, fun _ j hj hne hR => absurd (cut j hj hR) hne, fun e => by cases e⟩
theorem lnGS_less {D R : Nat → Int} {n b : Nat} {s : Option Nat × Bool} (h : lnGS D R n s) (hs : s.1 = some b) (hn : R n < 0) (hl : D n * (-R b) < D b * (-R n)) : lnGS D R (n + 1) (some n, false) := by
  obtain ⟨s1, s2⟩ := s
  cases hs
  obtain ⟨h1, h2, h3, h4, h5⟩ := h
  have key : ∀ j, j < n → R j < 0 → D n * (-R j) < D j * (-R n) := fun j hj hR => rt_lt (by omega) (by omega) (by omega) hl (h3 j hj hR)
  refine ⟨Nat.lt_succ_self n, hn, fun j hj hR => ?_, fun _ j hj hne hR => key j (by omega) hR, fun e => by cases e⟩
  rcases Nat.lt_or_ge j n with q | q
  · exact Int.le_of_lt (key j q hR)
  · rw [show j = n by omega]
    exact Int.le_refl _
theorem lnGS_keep {D R : Nat → Int} {n b : Nat} {s : Option Nat × Bool} (h : lnGS D R n s) (hs : s.1 = some b) (hn : R n < 0) (hl : D n * (-R b) = D b * (-R n)) : lnGS D R (n + 1) (some b, true) := by
  obtain ⟨s1, s2⟩ := s
  cases hs
  obtain ⟨h1, h2, h3, h4, h5⟩ := h
  refine ⟨Nat.lt_succ_of_lt h1, h2, fun j hj hR => ?_, fun e => (by cases e), fun _ => ⟨n, Nat.lt_succ_self n, by omega, hn, hl.symm⟩⟩
  rcases Nat.lt_or_ge j n with q | q
  · exact h3 j q hR
  · rw [show j = n by omega]
    exact Int.le_of_eq hl.symm
theorem lnGS_new {D R : Nat → Int} {n b : Nat} {s : Option Nat × Bool} (h : lnGS D R n s) (hs : s.1 = some b) (hn : R n < 0) (hl : D n * (-R b) = D b * (-R n)) : lnGS D R (n + 1) (some n, true) := by
  obtain ⟨s1, s2⟩ := s
  cases hs
  obtain ⟨h1, h2, h3, h4, h5⟩ := h
  refine ⟨Nat.lt_succ_self n, hn, fun j hj hR => ?_, fun e => (by cases e), fun _ => ⟨b, Nat.lt_succ_of_lt h1, by omega, h2, hl⟩⟩
  rcases Nat.lt_or_ge j n with q | q
  · exact rt_le (by omega) (by omega) (by omega) (Int.le_of_eq hl) (h3 j q hR)
  · rw [show j = n by omega]
    exact Int.le_refl _
theorem lnGS_more {D R : Nat → Int} {n b : Nat} {s : Option Nat × Bool} (h : lnGS D R n s) (hs : s.1 = some b) (hl : D b * (-R n) < D n * (-R b)) : lnGS D R (n + 1) s := by
  obtain ⟨s1, s2⟩ := s
  cases hs
  obtain ⟨h1, h2, h3, h4, h5⟩ := h
  refine ⟨Nat.lt_succ_of_lt h1, h2, fun j hj hR => ?_, fun e j hj hne hR => ?_, fun e => ?_⟩
  · rcases Nat.lt_or_ge j n with q | q
    · exact h3 j q hR
    · rw [show j = n by omega]
      exact Int.le_of_lt hl
  · rcases Nat.lt_or_ge j n with q | q
    · exact h4 e j q hne hR
    · rw [show j = n by omega]
      exact hl
  · obtain ⟨j, a1, a2, a3, a4⟩ := h5 e
    exact ⟨j, Nat.lt_succ_of_lt a1, a2, a3, a4⟩
theorem lnGS_t {D R : Nat → Int} {s : Option Nat × Bool} {k : Nat} (h : lnGS D R 3 s) (hs : s.2 = true) : ¬ lnMin D R k := by
  obtain ⟨s1, s2⟩ := s
  cases hs
  intro hm
  cases s1 with
  | none => exact h k hm.1 hm.2.1
  | some b =>
    obtain ⟨h1, h2, h3, h4, h5⟩ := h
    obtain ⟨j, a1, a2, a3, a4⟩ := h5 rfl
    by_cases e : b = k
    · subst e
      have := hm.2.2 j a1 a2 a3
      omega
    · have c1 := h3 k hm.1 hm.2.1
      have c2 := hm.2.2 b h1 e h2
      omega
theorem lnGS_f {D R : Nat → Int} {s : Option Nat × Bool} {b : Nat} (h : lnGS D R 3 s) (hs : s.1 = some b) (h2 : s.2 = false) : lnMin D R b := by
  obtain ⟨s1, s2⟩ := s
  cases hs
  cases h2
  exact ⟨h.1, h.2.1, h.2.2.2.1 rfl⟩
theorem lnGS_n {D R : Nat → Int} {s : Option Nat × Bool} {k : Nat} (h : lnGS D R 3 s) (hs : s.1 = none) (hk : k < 3) : ¬ R k < 0 := by
  obtain ⟨s1, s2⟩ := s
  cases hs
  exact h k hk
/-- the law's choice -/
def lnF (D R : Nat → Int) : Nat → Option Nat × Bool
  | 0 => (none, false)
  | d + 1 => if R d < 0 then
      match (lnF D R d).1 with
      | none => (some d, false)
      | some b => if D b * (-R d) < D d * (-R b) then lnF D R d else (some d, decide (D d * (-R b) = D b * (-R d)))
    else lnF D R d
theorem lnF_GS (D R : Nat → Int) : ∀ n, lnGS D R n (lnF D R n)
  | 0 => fun j hj => absurd hj (Nat.not_lt_zero j)
  | n + 1 => by
    have ih := lnF_GS D R n
    unfold lnF
    by_cases hn : R n < 0
    · rw [if_pos hn]
      cases hb : (lnF D R n).1 with
      | none => exact lnGS_first ih hb hn
      | some b =>
        dsimp only
        split
        · rename_i hl
          exact lnGS_more ih hb hl
        · rename_i hl
          by_cases he : D n * (-R b) = D b * (-R n)
          · rw [decide_eq_true he]
            exact lnGS_new ih hb hn he
          · rw [decide_eq_false he]
            exact lnGS_less ih hb hn (by omega)
    · rw [if_neg hn]
      exact lnGS_skip ih hn
/-- the class's choice -/
abbrev sgMin (t p : Nat → Nat) (a : Nat) : Prop := lnMin (fun d => (t d : Int)) (fun d => -(p d : Int)) a
theorem nwF_GS (t p : Nat → Nat) : ∀ n, lnGS (fun d => (t d : Int)) (fun d => -(p d : Int)) n (nwF t p n)
  | 0 => fun j hj => absurd hj (Nat.not_lt_zero j)
  | n + 1 => by
    have ih := nwF_GS t p n
    unfold nwF
    by_cases hn : p n = 0
    · rw [if_pos hn]
      exact lnGS_skip ih (by show ¬ -(p n : Int) < 0; omega)
    · rw [if_neg hn]
      have hn' : -(p n : Int) < 0 := by omega
      cases hb : (nwF t p n).1 with
      | none => exact lnGS_first ih hb hn'
      | some b =>
        dsimp only
        have e1 : ((t n : Int) * (p b : Int)) = ((t n * p b : Nat) : Int) := by push_cast; rfl
        have e2 : ((t b : Int) * (p n : Int)) = ((t b * p n : Nat) : Int) := by push_cast; rfl
        split
        · refine lnGS_less ih hb hn' ?_
          simp only [Int.neg_neg, e1, e2]
          omega
        · split
          · refine lnGS_keep ih hb hn' ?_
            simp only [Int.neg_neg, e1, e2]
            omega
          · have hq : (some b, (nwF t p n).2) = nwF t p n := by rw [← hb]
            rw [hq]
            refine lnGS_more ih hb ?_
            simp only [Int.neg_neg, e1, e2]
            omega
theorem sgNw_min {t p : Nat → Nat} {a : Nat} : sgNw t p = some a ↔ sgMin t p a := by
  have h := nwF_GS t p 3
  unfold sgNw
  cases hb : (nwF t p 3).2 with
  | true =>
    rw [if_pos rfl]
    exact ⟨fun e => (by cases e), fun e => absurd e (lnGS_t h hb)⟩
  | false =>
    rw [if_neg (by decide)]
    cases hc : (nwF t p 3).1 with
    | none => exact ⟨fun e => (by cases e), fun e => absurd e.2.1 (lnGS_n h hc e.1)⟩
    | some b =>
      have hm := lnGS_f h hc hb
      exact ⟨fun e => by cases e; exact hm, fun e => by rw [lnMin_un hm e]⟩
