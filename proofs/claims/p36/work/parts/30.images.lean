/-! seen, met, image, images -/
def mhSeA (p q n what : Int32) : Prop := mhTurn p q ∧ (1 ≤ n ∧ n ≤ 200) ∧ (0 ≤ what ∧ what ≤ 3)
def mhSeR (what : Int32) (g : mhSg) : Int32 := if what = 0 then g.2.2.2.2.2.2 else if what = 1 then nI g.2.2.2.1 else if what = 2 then nI g.2.2.2.2.1 else nI g.2.2.1
theorem mh_n200 {n : Int32} (h : 1 ≤ n ∧ n ≤ 200) : ∃ k, k ≤ 200 ∧ n = nI k := by
  obtain ⟨k, hk, e⟩ := mh_of2 (n := 200) (M := 200) rfl (by grind) h.2
  exact ⟨k, by omega, e⟩
theorem mhTurn.bd {p q : Int32} (h : mhTurn p q) : sgBd p q := ⟨h.1, h.2.1⟩
def skS (im : Int32 → Int32 → Int32) (so p q : Int32) (s : Nat × Int32 × Int32 × Int32) : Nat × Int32 × Int32 × Int32 :=
  if (p = 0 ∧ q = 0) ∨ ¬ im p q = so then s else (s.1 + 1, if s.1 = 0 ∨ p * p + p * q + q * q < s.2.1 then (p * p + p * q + q * q, p, q) else s.2)
def skQ (im : Int32 → Int32 → Int32) (so p : Int32) : Nat → Int32 → (Nat × Int32 × Int32 × Int32) → Nat × Int32 × Int32 × Int32
  | 0, _, s => s
  | n + 1, q, s => skQ im so p n (q + 1) (skS im so p q s)
def skP (im : Int32 → Int32 → Int32) (so mg : Int32) (k : Nat) : Nat → Int32 → (Nat × Int32 × Int32 × Int32) → Nat × Int32 × Int32 × Int32
  | 0, _, s => s
  | n + 1, p, s => skP im so mg k n (p + 1) (skQ im so p k mg s)
theorem skS_c {im : Int32 → Int32 → Int32} {so p q : Int32} {s : Nat × Int32 × Int32 × Int32} : (skS im so p q s).1 ≤ s.1 + 1 := by
  unfold skS; split
  · exact Nat.le_succ _
  · exact Nat.le_refl _
theorem skQ_c {im : Int32 → Int32 → Int32} {so p : Int32} : ∀ {n : Nat} {q : Int32} {s : Nat × Int32 × Int32 × Int32}, (skQ im so p n q s).1 ≤ s.1 + n
  | 0, _, _ => Nat.le_refl _
  | n + 1, q, s => by
    have h1 := skQ_c (im := im) (so := so) (p := p) (n := n) (q := q + 1) (s := skS im so p q s)
    have h2 := skS_c (im := im) (so := so) (p := p) (q := q) (s := s)
    show (skQ im so p n (q + 1) (skS im so p q s)).1 ≤ _
    omega
/-- where nothing is found, nothing is kept -/
theorem skS_0 {im : Int32 → Int32 → Int32} {so p q : Int32} {s : Nat × Int32 × Int32 × Int32} (h : s.1 = 0 → s.2.2 = (-9, -9)) : (skS im so p q s).1 = 0 → (skS im so p q s).2.2 = (-9, -9) := by
  unfold skS; split
  · exact h
  · intro e; exact absurd e (Nat.succ_ne_zero _)
theorem skQ_0 {im : Int32 → Int32 → Int32} {so p : Int32} : ∀ {n : Nat} {q : Int32} {s : Nat × Int32 × Int32 × Int32}, (s.1 = 0 → s.2.2 = (-9, -9)) → (skQ im so p n q s).1 = 0 → (skQ im so p n q s).2.2 = (-9, -9)
  | 0, _, _, h => h
  | n + 1, q, s, h => skQ_0 (n := n) (skS_0 h)
theorem skP_0 {im : Int32 → Int32 → Int32} {so mg : Int32} {k : Nat} : ∀ {n : Nat} {p : Int32} {s : Nat × Int32 × Int32 × Int32}, (s.1 = 0 → s.2.2 = (-9, -9)) → (skP im so mg k n p s).1 = 0 → (skP im so mg k n p s).2.2 = (-9, -9)
  | 0, _, _, h => h
  | n + 1, p, s, h => skP_0 (n := n) (skQ_0 h)
theorem skP_c {im : Int32 → Int32 → Int32} {so mg : Int32} {k : Nat} : ∀ {n : Nat} {p : Int32} {s : Nat × Int32 × Int32 × Int32}, (skP im so mg k n p s).1 ≤ s.1 + n * k
  | 0, _, _ => Nat.le_add_right _ _
  | n + 1, p, s => by
    have h1 := skP_c (im := im) (so := so) (mg := mg) (k := k) (n := n) (p := p + 1) (s := skQ im so p k mg s)
    have h2 := skQ_c (im := im) (so := so) (p := p) (n := k) (q := mg) (s := s)
    show (skP im so mg k n (p + 1) (skQ im so p k mg s)).1 ≤ _
    have h3 : (n + 1) * k = n * k + k := Nat.succ_mul n k
    omega
def skA (im : Int32 → Int32 → Int32) (so : Int32) (g : Nat) : Nat × Int32 × Int32 × Int32 := skP im so (-nI g) (2 * g + 1) (2 * g + 1) (-nI g) (0, 0, -9, -9)
def mhImR (what : Int32) (s : Nat × Int32 × Int32 × Int32) : Int32 := if what = 0 then nI s.1 else if what = 1 then s.2.2.1 else s.2.2.2
/-- the class's found, nearestP, nearestQ -/
def skR (F : mhF) (s : Nat × Int32 × Int32 × Int32) : Prop := F 6 5 = nI s.1 ∧ (¬ s.1 = 0 → F 6 6 = s.2.2.1 ∧ F 6 7 = s.2.2.2)
def frS (F : mhF) (I : mhI) (F' : mhF) (I' : mhI) : Prop := (∀ b k, ¬ (b = 6 ∧ k < 8) → F' b k = F b k) ∧ ∀ b j, b ≠ 7 → b ≠ 8 → b ≠ 9 → I' b j = I b j
theorem frS.rf {F : mhF} {I : mhI} : frS F I F I := ⟨fun _ _ _ => rfl, fun _ _ _ _ _ => rfl⟩
theorem frS.tr {F F1 F2 : mhF} {I I1 I2 : mhI} (h : frS F I F1 I1) (h2 : frS F1 I1 F2 I2) : frS F I F2 I2 := ⟨fun b k e => (h2.1 b k e).trans (h.1 b k e), fun b j e1 e2 e3 => (h2.2 b j e1 e2 e3).trans (h.2 b j e1 e2 e3)⟩
theorem frC.s {F F1 : mhF} {I I1 : mhI} (h : frC F I F1 I1) : frS F I F1 I1 := ⟨fun b k e => h.1 b k (fun z => e ⟨z.1, by omega⟩), h.2⟩
theorem mhHs.frs {S : List mhS} {F F' : mhF} {I I' : mhI} {a w h : Nat} (hf : frS F I F' I') (H : mhHs S F I a w h) : mhHs S F' I' a w h := by
  obtain ⟨h1, h2, h3, h4, h5, h6, h7, h8, h9, h10, h11⟩ := H
  have e : ∀ k, F' a k = F a k := fun k => hf.1 a k (by omega)
  exact ⟨h1, h2, (e 0).trans h3, (e 1).trans h4, (e 2).trans h5, (e 3).trans h6, fun b hb j => (hf.2 _ j (by omega) (by omega) (by omega)).trans (h7 b hb j), (hf.2 _ _ (by omega) (by omega) (by omega)).trans h8, (hf.2 _ _ (by omega) (by omega) (by omega)).trans h9, (hf.2 _ _ (by omega) (by omega) (by omega)).trans h10, h11⟩
theorem mhPn.frs {F F' : mhF} {I I' : mhI} {a w h : Nat} {kd : Nat → Int32} (hf : frS F I F' I') (ha : 21 ≤ a) (H : mhPn I a w h kd) : mhPn I' a w h kd := fun k hk => (hf.2 _ _ (by omega) (by omega) (by omega)).trans (H k hk)
def mhIaA (g what : Int32) : Prop := (1 ≤ g ∧ g ≤ 24) ∧ (0 ≤ what ∧ what ≤ 2)
theorem mh_n24 {n : Int32} (h : 1 ≤ n ∧ n ≤ 24) : ∃ k, 1 ≤ k ∧ k ≤ 24 ∧ n = nI k := by
  obtain ⟨k, hk, e⟩ := mh_of2 (n := 24) (M := 24) rfl (by grind) h.2
  refine ⟨k, ?_, by omega, e⟩
  rw [e, show (1 : Int32) = nI 1 from rfl, nI_leI (by decide) (by omega)] at h
  exact h.1
