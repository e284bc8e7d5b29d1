/-! photographs -/
theorem mhAg_0 {s len o i n : Int32} (h : mhAg s len o i n = 0) (h0 : 0 ≤ len) (h1 : len ≤ 60) : ¬ s = -9 ∧ ∃ ii nn, ii + nn ≤ 60 ∧ i = nI ii ∧ n = nI nn := by
  unfold mhAg at h
  split at h
  · exact absurd h (by decide)
  · split at h
    · exact absurd h (by decide)
    · rename_i h3
      split at h
      · exact absurd h (by decide)
      · rename_i h4
        split at h
        · rename_i h5
          obtain ⟨ii, hi, rfl⟩ := nI_of (Int32.not_lt.mpr h5.1)
          obtain ⟨nn, hn, rfl⟩ := nI_of h4
          obtain ⟨ll, hl, rfl⟩ := nI_of (Int32.not_lt.mpr h0)
          have e1 : ll ≤ 60 := by
            have : nI ll ≤ nI 60 := h1
            exact (nI_leI hl (by decide)).mp this
          have e2 : ii ≤ ll := (nI_leI hi hl).mp h5.2.1
          have e3 := h5.2.2
          rw [pk_sub e2, nI_leI hn (by omega)] at e3
          exact ⟨h3, ii, nn, by omega, rfl, rfl⟩
        · exact absurd h (by decide)
def phOk (cl : Nat → Int32) (ii : Nat) (n : Int32) : Prop := ∃ nn, n = nI nn ∧ 5 ≤ nn ∧ nn ≤ 30 ∧ nn % 5 = 0 ∧ ∀ t, 5 * t < nn → mhTurn (cl (ii + 5 * t)) (cl (ii + 5 * t + 1))
theorem mh_s5 (t : Nat) : nI (5 * t) + 5 = nI (5 * (t + 1)) := by rw [show (5 : Int32) = nI 5 from rfl, nI_add]; exact congrArg nI (by omega)
theorem mh_d5 {n : Nat} (hn : n < 2 ^ 31) : nI n / 5 = nI (n / 5) := by rw [show (5 : Int32) = nI 5 from rfl]; exact pk_div hn (by decide) (by decide)
theorem mh_r5 {n : Nat} (hn : n < 2 ^ 31) : nI n - nI n / 5 * 5 = nI (n % 5) := by rw [show (5 : Int32) = nI 5 from rfl]; exact pk_rem hn (by decide) (by decide)
theorem mh_n530 {n : Int32} (h : 5 ≤ n ∧ n ≤ 30) : ∃ k, 5 ≤ k ∧ k ≤ 30 ∧ n = nI k := by
  obtain ⟨k, hk, e⟩ := mh_of2 (n := 30) (M := 30) rfl (by grind) h.2
  refine ⟨k, ?_, by omega, e⟩
  rw [e, show (5 : Int32) = nI 5 from rfl, nI_leI (by decide) (by omega)] at h
  exact h.1
