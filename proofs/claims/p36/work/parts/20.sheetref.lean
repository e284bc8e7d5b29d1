/-! sheets: the reference's calls -/
def mhSm (I : mhI) : Prop := ∀ j, j < 4 → 0 ≤ I 23 (nI j) ∧ I 23 (nI j) ≤ 60
theorem mh_sc4 {k : Int32} (h : mhSc k) : vp_in k 4 := mh_vp (N := 4) rfl h.1 (by grind)
theorem mh_scj {k : Int32} (h : mhSc k) : ∃ j, j < 4 ∧ k = nI j := mh_of2 (n := 3) rfl h.1 h.2
theorem mh_e60 (j i : Nat) : (60 : Int32) * nI j + nI i = nI (60 * j + i) := by rw [show (60 : Int32) = nI 60 from rfl, pk_mul, nI_add]
theorem mh_in60 {i : Int32} (h0 : 0 ≤ i) (h1 : i < 60) : ∃ t, t < 60 ∧ i = nI t := by
  obtain ⟨t, ht, e⟩ := mh_of2 (n := 59) (M := 59) rfl h0 (by grind)
  exact ⟨t, by omega, e⟩
theorem mh_in240 {k i : Int32} (h : mhSc k) (h0 : 0 ≤ i) (h1 : i < 60) : vp_in (60 * k + i) 240 := by
  obtain ⟨j, hj, rfl⟩ := mh_scj h
  obtain ⟨t, ht, rfl⟩ := mh_in60 h0 h1
  rw [mh_e60]
  exact vp_in_nI (by omega) (by decide)
theorem mhCp_at {I : mhI} {src sp dst dp n b x : Nat} (hx : x < 2 ^ 31) : mhCp I src sp dst dp n b (nI x) = if b = dst ∧ dp ≤ x ∧ x < dp + n then I src (nI (sp + (x - dp))) else I b (nI x) := by
  unfold mhCp
  simp only [nI_clamp hx, nI_pos hx, not_false_eq_true, true_and]
theorem mhCp_neg {I : mhI} {src sp dst dp n b : Nat} {y : Int32} (hy : y < 0) : mhCp I src sp dst dp n b y = I b y := by
  unfold mhCp
  exact if_neg fun e => e.2.1 hy
theorem mhCp_0 {I : mhI} {src sp dst dp : Nat} : mhCp I src sp dst dp 0 = I := by
  funext b y
  exact if_neg fun e => by omega
theorem mhI_ext {I I' : mhI} (h0 : ∀ b y, y < 0 → I b y = I' b y) (h : ∀ b x, x < 2 ^ 31 → I b (nI x) = I' b (nI x)) : I = I' := by
  funext b y
  by_cases hy : y < 0
  · exact h0 b y hy
  · obtain ⟨x, hx, rfl⟩ := nI_of hy
    exact h b x hx
theorem mhUI_at {I : mhI} {a b i x : Nat} {v : Int32} (hi : i < 2 ^ 31) (hx : x < 2 ^ 31) : mhUI I a (nI i) v b (nI x) = if b = a ∧ x = i then v else I b (nI x) := by
  unfold mhUI
  simp only [nI_eq hx hi]
theorem mhUI_neg {I : mhI} {a b i : Nat} {v y : Int32} (hi : i < 2 ^ 31) (hy : y < 0) : mhUI I a (nI i) v b y = I b y := by
  unfold mhUI
  refine if_neg fun e => ?_
  rw [e.2] at hy
  exact nI_pos hi hy
/-- one cell more, from the end -/
theorem mhCp_sA {I : mhI} {a s d n q : Nat} (hq : q < n) (hs : s + n < 2 ^ 31) (hd : d + n < 2 ^ 31) (hr : s < d ∨ d + n ≤ s) : mhUI (mhCp I a (s + (n - q)) a (d + (n - q)) q) a (nI (d + (n - 1 - q))) (mhCp I a (s + (n - q)) a (d + (n - q)) q a (nI (s + (n - 1 - q)))) = mhCp I a (s + (n - (q + 1))) a (d + (n - (q + 1))) (q + 1) := by
  refine mhI_ext (fun b y hy => ?_) (fun b x hx => ?_)
  · rw [mhUI_neg (by omega) hy, mhCp_neg hy, mhCp_neg hy]
  · rw [mhUI_at (by omega) hx, mhCp_at hx, mhCp_at (by omega), mhCp_at hx]
    by_cases hb : b = a
    · subst hb
      by_cases h1 : x = d + (n - 1 - q)
      · rw [if_pos ⟨rfl, h1⟩, if_neg (by omega), if_pos ⟨rfl, by omega, by omega⟩]
        congr 2; omega
      · rw [if_neg (fun e => h1 e.2)]
        by_cases h2 : d + (n - q) ≤ x ∧ x < d + (n - q) + q
        · rw [if_pos ⟨rfl, h2⟩, if_pos ⟨rfl, by omega, by omega⟩]
          congr 2; omega
        · rw [if_neg (fun e => h2 e.2), if_neg (fun e => by omega)]
    · rw [if_neg (fun e => hb e.1), if_neg (fun e => hb e.1), if_neg (fun e => hb e.1)]
/-- one cell more, from the start -/
theorem mhCp_sB {I : mhI} {a s d n q : Nat} (hq : q < n) (hs : s + n < 2 ^ 31) (hd : d + n < 2 ^ 31) (hr : d ≤ s ∨ s + n ≤ d) : mhUI (mhCp I a s a d q) a (nI (d + q)) (mhCp I a s a d q a (nI (s + q))) = mhCp I a s a d (q + 1) := by
  refine mhI_ext (fun b y hy => ?_) (fun b x hx => ?_)
  · rw [mhUI_neg (by omega) hy, mhCp_neg hy, mhCp_neg hy]
  · rw [mhUI_at (by omega) hx, mhCp_at hx, mhCp_at (by omega), mhCp_at hx]
    by_cases hb : b = a
    · subst hb
      by_cases h1 : x = d + q
      · rw [if_pos ⟨rfl, h1⟩, if_neg (by omega), if_pos ⟨rfl, by omega, by omega⟩]
        congr 2; omega
      · rw [if_neg (fun e => h1 e.2)]
        by_cases h2 : d ≤ x ∧ x < d + q
        · rw [if_pos ⟨rfl, h2⟩, if_pos ⟨rfl, by omega, by omega⟩]
        · rw [if_neg (fun e => h2 e.2), if_neg (fun e => by omega)]
    · rw [if_neg (fun e => hb e.1), if_neg (fun e => hb e.1), if_neg (fun e => hb e.1)]
