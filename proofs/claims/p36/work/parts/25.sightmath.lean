/-! sight, in plain numbers: of each way the thirds to its next line (t), the thirds a turn goes (p), the room's way that lies there (f) -/
abbrev mhSg : Type := (Nat → Nat) × (Nat → Nat) × Nat × Nat × Nat × Int32 × Int32
/-- the next way, of the first n ways; whether lines meet -/
def nwF (t p : Nat → Nat) : Nat → Option Nat × Bool
  | 0 => (none, false)
  | d + 1 =>
    if p d = 0 then nwF t p d else
    match (nwF t p d).1 with
    | none => (some d, false)
    | some b => if t d * p b < t b * p d then (some d, false) else if t d * p b = t b * p d then (some b, true) else (some b, (nwF t p d).2)
def sgNw (t p : Nat → Nat) : Option Nat := if (nwF t p 3).2 = true then none else (nwF t p 3).1
def onN : Option Nat → Int32
  | none => -9
  | some b => nI b
def bI (b : Bool) : Int32 := if b = true then 1 else 0
def sgFold (f : Nat → Nat) (d : Nat) : Nat → Nat := fun x => if x = (d + 1) % 3 then f ((d + 2) % 3) else if x = (d + 2) % 3 then f ((d + 1) % 3) else f x
def sgUp (t : Nat → Nat) (d : Nat) : Nat → Nat := fun x => if x = d then t x + 3 else t x
/-- one crossing more, or it ends: t, f, room, crossings, mirrors, side, how it ends -/
def sgStep (w h : Nat) (kd : Nat → Int32) (p : Nat → Nat) (g : mhSg) : mhSg :=
  match sgNw g.1 p with
  | none => (g.1, g.2.1, g.2.2.1, g.2.2.2.1, g.2.2.2.2.1, g.2.2.2.2.2.1, 0)
  | some d =>
    let k := gSide w h g.2.2.1 (g.2.1 d)
    if kd k = 0 then (sgUp g.1 d, sgFold g.2.1 d, g.2.2.1, g.2.2.2.1 + 1, g.2.2.2.2.1 + 1, nI k, g.2.2.2.2.2.2)
    else if gB w h g.2.2.1 (g.2.1 d) = -9 then (sgUp g.1 d, g.2.1, g.2.2.1, g.2.2.2.1 + 1, g.2.2.2.2.1, nI k, 1)
    else (sgUp g.1 d, g.2.1, (gB w h g.2.2.1 (g.2.1 d)).toNatClampNeg, g.2.2.2.1 + 1, g.2.2.2.2.1, nI k, g.2.2.2.2.2.2)
/-- what holds of a line on its way -/
def sgOk (w h : Nat) (p : Nat → Nat) (g : mhSg) : Prop := (∀ d, d < 3 → p d ≤ 120 ∧ g.1 d ≤ 3 * g.2.2.2.1 + 3 ∧ g.2.1 d < 3) ∧ g.2.2.1 < gRooms w h ∧ g.2.2.2.1 ≤ 1000 ∧ g.2.2.2.2.1 ≤ g.2.2.2.1
theorem nwF_some {t p : Nat → Nat} : ∀ {n b : Nat}, (nwF t p n).1 = some b → b < n ∧ ¬ p b = 0
  | 0, b, h => by simp [nwF] at h
  | n + 1, b, h => by
    unfold nwF at h
    by_cases hp : p n = 0
    · rw [if_pos hp] at h
      have := nwF_some h
      exact ⟨by omega, this.2⟩
    · rw [if_neg hp] at h
      cases hb : (nwF t p n).1 with
      | none =>
        rw [hb] at h
        simp only [Option.some.injEq] at h
        subst h
        exact ⟨by omega, hp⟩
      | some c =>
        rw [hb] at h
        have hc := nwF_some hb
        dsimp only at h
        split at h
        · simp only [Option.some.injEq] at h; subst h; exact ⟨by omega, hp⟩
        · split at h
          · simp only [Option.some.injEq] at h; subst h; exact ⟨by omega, hc.2⟩
          · simp only [Option.some.injEq] at h; subst h; exact ⟨by omega, hc.2⟩
theorem nwF_s {t p : Nat → Nat} {d : Nat} : nwF t p (d + 1) = if p d = 0 then nwF t p d else
    match (nwF t p d).1 with
    | none => (some d, false)
    | some b => if t d * p b < t b * p d then (some d, false) else if t d * p b = t b * p d then (some b, true) else (some b, (nwF t p d).2) := rfl
/-- the next way is the least by t / p -/
theorem nwF_least {t p : Nat → Nat} : ∀ {n b : Nat}, (nwF t p n).1 = some b → ∀ d, d < n → ¬ p d = 0 → t b * p d ≤ t d * p b
  | 0, b, h, d, hd, _ => by omega
  | n + 1, b, h, d, hd, hp => by
    unfold nwF at h
    by_cases hpn : p n = 0
    · rw [if_pos hpn] at h
      have hdn : d < n := by
        rcases Nat.lt_or_ge d n with q | q
        · exact q
        · exact absurd (show p d = 0 by rw [show d = n by omega]; exact hpn) hp
      exact nwF_least h d hdn hp
    · rw [if_neg hpn] at h
      cases hb : (nwF t p n).1 with
      | none =>
        rw [hb] at h
        simp only [Option.some.injEq] at h
        subst h
        rcases Nat.lt_or_ge d n with q | q
        · exfalso
          -- a way before with a pace would have been taken
          have key : ∀ m, m ≤ n → (nwF t p m).1 = none → ∀ x, x < m → p x = 0 := by
            intro m
            induction m with
            | zero => intro _ _ x hx; omega
            | succ m ihm =>
              intro hm hn x hx
              unfold nwF at hn
              by_cases hpm : p m = 0
              · rw [if_pos hpm] at hn
                rcases Nat.lt_or_ge x m with z | z
                · exact ihm (by omega) hn x z
                · rw [show x = m by omega]; exact hpm
              · rw [if_neg hpm] at hn
                cases hc : (nwF t p m).1 with
                | none => rw [hc] at hn; simp at hn
                | some c =>
                  rw [hc] at hn
                  dsimp only at hn
                  split at hn
                  · simp at hn
                  · split at hn <;> simp at hn
          exact hp (key n (Nat.le_refl _) hb d q)
        · rw [show d = n by omega]
          exact Nat.le_refl _
      | some c =>
        rw [hb] at h
        have hc := nwF_some hb
        have hl := fun x hx hpx => nwF_least hb x hx hpx
        have pc0 : 0 < p c := Nat.pos_of_ne_zero hc.2
        have pn0 : 0 < p n := Nat.pos_of_ne_zero hpn
        dsimp only at h
        split at h
        · rename_i h1
          simp only [Option.some.injEq] at h
          subst h
          rcases Nat.lt_or_ge d n with q | q
          · have h2 := hl d q hp
            have h3 : t n * p c * p d ≤ t c * p n * p d := Nat.mul_le_mul_right _ (Nat.le_of_lt h1)
            have h4 : t c * p d * p n ≤ t d * p c * p n := Nat.mul_le_mul_right _ h2
            have h5 : (t n * p d) * p c ≤ (t d * p n) * p c := by
              calc (t n * p d) * p c = t n * p c * p d := by rw [Nat.mul_assoc, Nat.mul_comm (p d), ← Nat.mul_assoc]
                _ ≤ t c * p n * p d := h3
                _ = t c * p d * p n := by rw [Nat.mul_assoc, Nat.mul_comm (p n), ← Nat.mul_assoc]
                _ ≤ t d * p c * p n := h4
                _ = (t d * p n) * p c := by rw [Nat.mul_assoc, Nat.mul_comm (p c), ← Nat.mul_assoc]
            exact Nat.le_of_mul_le_mul_right h5 pc0
          · rw [show d = n by omega]
            exact Nat.le_refl _
        · rename_i h1
          have hbc : b = c := by
            split at h <;> (simp only [Option.some.injEq] at h; exact h.symm)
          subst hbc
          rcases Nat.lt_or_ge d n with q | q
          · exact hl d q hp
          · rw [show d = n by omega]
            omega
/-- where a line is ahead of the end of a turn, the next line is -/
theorem nwF_ahead {t p : Nat → Nat} {b : Nat} (h : (nwF t p 3).1 = some b) {d : Nat} (hd : d < 3) (hp : ¬ p d = 0) (ha : t d < p d) : t b < p b := by
  have h1 := nwF_least h d hd hp
  have hb := nwF_some h
  have pb : 0 < p b := Nat.pos_of_ne_zero hb.2
  have h2 : t d * p b < p d * p b := Nat.mul_lt_mul_of_pos_right ha pb
  have h3 : t b * p d < p b * p d := by
    calc t b * p d ≤ t d * p b := h1
      _ < p d * p b := h2
      _ = p b * p d := Nat.mul_comm _ _
  exact Nat.lt_of_mul_lt_mul_right h3
theorem sgOk_step {w h : Nat} {kd : Nat → Int32} {p : Nat → Nat} {g : mhSg} (gk : gOk w h) (hg : sgOk w h p g) (hc : g.2.2.2.1 < 1000) : sgOk w h p (sgStep w h kd p g) := by
  obtain ⟨h1, h2, h3, h4⟩ := hg
  unfold sgStep
  cases hn : sgNw g.1 p with
  | none => exact ⟨h1, h2, h3, h4⟩
  | some d =>
    have hd3 : d < 3 := by
      unfold sgNw at hn
      split at hn
      · cases hn
      · exact (nwF_some hn).1
    have ht : ∀ x, x < 3 → p x ≤ 120 ∧ sgUp g.1 d x ≤ 3 * (g.2.2.2.1 + 1) + 3 := fun x hx => by
      have := h1 x hx
      refine ⟨this.1, ?_⟩
      unfold sgUp
      split <;> omega
    have hf : ∀ x, x < 3 → sgFold g.2.1 d x < 3 := fun x hx => by
      have a0 := (h1 ((d + 1) % 3) (by omega)).2.2
      have a1 := (h1 ((d + 2) % 3) (by omega)).2.2
      have a2 := (h1 x hx).2.2
      unfold sgFold
      split
      · exact a1
      · split
        · exact a0
        · exact a2
    dsimp only
    split
    · exact ⟨fun x hx => ⟨(ht x hx).1, (ht x hx).2, hf x hx⟩, h2, by dsimp only; omega, by dsimp only; omega⟩
    · split
      · exact ⟨fun x hx => ⟨(ht x hx).1, (ht x hx).2, (h1 x hx).2.2⟩, h2, by dsimp only; omega, by dsimp only; omega⟩
      · rename_i hb
        refine ⟨fun x hx => ⟨(ht x hx).1, (ht x hx).2, (h1 x hx).2.2⟩, ?_, by dsimp only; omega, by dsimp only; omega⟩
        rcases gB1 gk h2 (h1 d hd3).2.2 with e | ⟨q, hq, e⟩
        · exact absurd e hb
        · dsimp only
          have := gBd gk
          rw [e, nI_clamp (by omega)]
          exact hq
theorem mh_sb {A B : Nat} (hA : A < 2 ^ 30) (hB : B < 2 ^ 30) : (nI A - nI B < 0 ↔ A < B) ∧ (0 ≤ nI A - nI B ↔ B ≤ A) ∧ (nI A - nI B = 0 ↔ A = B) ∧ (nI A - nI B ≤ 0 ↔ A ≤ B) := by
  have e := pk_sub_toInt hA hB
  have z : (0 : Int32).toInt = 0 := rfl
  refine ⟨?_, ?_, ?_, ?_⟩
  · rw [fa_lt, e, z]; omega
  · rw [fa_le, e, z]; omega
  · rw [fa_eq, e, z]; omega
  · rw [fa_le, e, z]; omega
theorem mh_n9 {b : Nat} (hb : b < 2 ^ 31) : ¬ nI b = -9 := by
  intro e
  have h := nI_toInt hb
  rw [e] at h
  have z : (-9 : Int32).toInt = -9 := rfl
  rw [z] at h
  omega
