/-! houses changed into others, in plain words -/
/-- the sides that are not alike, of the first k -/
def ulS (kf kt : Nat → Int32) : Nat → Nat × (Nat → Nat)
  | 0 => (0, fun _ => 0)
  | k + 1 => if kf k = kt k then ulS kf kt k else ((ulS kf kt k).1 + 1, fun i => if i = (ulS kf kt k).1 then k else (ulS kf kt k).2 i)
theorem ulS_e {kf kt : Nat → Int32} {k : Nat} (h : kf k = kt k) : ulS kf kt (k + 1) = ulS kf kt k := if_pos h
theorem ulS_n {kf kt : Nat → Int32} {k : Nat} (h : ¬ kf k = kt k) : ulS kf kt (k + 1) = ((ulS kf kt k).1 + 1, fun i => if i = (ulS kf kt k).1 then k else (ulS kf kt k).2 i) := if_neg h
theorem ulS_le {kf kt : Nat → Int32} : ∀ {k : Nat}, (ulS kf kt k).1 ≤ k ∧ (∀ i, i < (ulS kf kt k).1 → (ulS kf kt k).2 i < k) ∧ ∀ i j, i < j → j < (ulS kf kt k).1 → (ulS kf kt k).2 i < (ulS kf kt k).2 j
  | 0 => ⟨Nat.le_refl _, fun i h => absurd h (Nat.not_lt_zero i), fun i j _ h => absurd h (Nat.not_lt_zero j)⟩
  | k + 1 => by
    obtain ⟨h1, h2, h3⟩ := ulS_le (kf := kf) (kt := kt) (k := k)
    by_cases c : kf k = kt k
    · rw [ulS_e c]
      exact ⟨by omega, fun i h => Nat.lt_succ_of_lt (h2 i h), h3⟩
    · rw [ulS_n c]
      refine ⟨by dsimp only; omega, fun i h => ?_, fun i j hij hj => ?_⟩
      · dsimp only at h ⊢
        by_cases e : i = (ulS kf kt k).1
        · rw [if_pos e]; exact Nat.lt_succ_self _
        · rw [if_neg e]; exact Nat.lt_succ_of_lt (h2 i (by omega))
      · dsimp only at hj ⊢
        have e1 : ¬ i = (ulS kf kt k).1 := by omega
        rw [if_neg e1]
        by_cases e : j = (ulS kf kt k).1
        · rw [if_pos e]; exact h2 i (by omega)
        · rw [if_neg e]; exact h3 i j hij (by omega)
theorem ulS_mono {kf kt : Nat → Int32} {k : Nat} : ∀ {d : Nat}, (ulS kf kt k).1 ≤ (ulS kf kt (k + d)).1
  | 0 => Nat.le_refl _
  | d + 1 => by
    have := ulS_mono (kf := kf) (kt := kt) (k := k) (d := d)
    rw [show k + (d + 1) = (k + d) + 1 by omega]
    by_cases c : kf (k + d) = kt (k + d)
    · rw [ulS_e c]; exact this
    · rw [ulS_n c]; dsimp only; omega
/-- panes with some of the sides changed -/
def csF (kf kt : Nat → Int32) (un : Nat → Nat) (s : Nat) : Nat → Nat → Int32
  | 0, x => kf x
  | k + 1, x => if x = un k then (if s.testBit k = true then kt x else kf x) else csF kf kt un s k x
theorem csF_s {kf kt : Nat → Int32} {un : Nat → Nat} {s k x : Nat} : csF kf kt un s (k + 1) x = if x = un k then (if s.testBit k = true then kt x else kf x) else csF kf kt un s k x := rfl
theorem csF_off {kf kt : Nat → Int32} {un : Nat → Nat} {s x : Nat} : ∀ {n : Nat}, (∀ y, y < n → ¬ un y = x) → csF kf kt un s n x = kf x
  | 0, _ => rfl
  | n + 1, h => by rw [csF_s, if_neg (fun e => h n (by omega) e.symm), csF_off (fun y hy => h y (by omega))]
def zc : Nat → Nat → Nat
  | 0, _ => 0
  | n + 1, s => zc n s + (if s.testBit n = true then 0 else 1)
theorem tb_or {s k j : Nat} : (s ||| 2 ^ k).testBit j = (s.testBit j || decide (k = j)) := by rw [Nat.testBit_or, Nat.testBit_two_pow]
theorem zc_le {s : Nat} : ∀ {n : Nat}, zc n s ≤ n
  | 0 => Nat.le_refl _
  | n + 1 => by have := zc_le (s := s) (n := n); unfold zc; split <;> omega
theorem zc_hi {s k : Nat} : ∀ {n : Nat}, n ≤ k → zc n (s ||| 2 ^ k) = zc n s
  | 0, _ => rfl
  | n + 1, h => by
    unfold zc
    rw [zc_hi (n := n) (by omega), tb_or, decide_eq_false (show ¬ k = n by omega), Bool.or_false]
theorem zc_or {s k : Nat} (hb : s.testBit k = false) : ∀ {n : Nat}, k < n → zc n (s ||| 2 ^ k) + 1 = zc n s
  | 0, h => absurd h (Nat.not_lt_zero k)
  | n + 1, h => by
    unfold zc
    by_cases c : k = n
    · subst c
      rw [zc_hi (Nat.le_refl _), tb_or, decide_eq_true rfl, Bool.or_true, hb]
      simp
    · have ih := zc_or hb (n := n) (by omega)
      rw [tb_or, decide_eq_false c, Bool.or_false]
      omega
theorem zc_full {s : Nat} : ∀ {n : Nat}, s < 2 ^ n → 0 < zc n s → ¬ s = 2 ^ n - 1 := by
  intro n hs hz e
  have key : ∀ m, m ≤ n → zc m s = 0 := by
    intro m
    induction m with
    | zero => intro _; rfl
    | succ m ih =>
      intro hm
      unfold zc
      rw [ih (by omega), e, Nat.testBit_two_pow_sub_one, decide_eq_true (show m < n by omega)]
      rfl
  rw [key n (Nat.le_refl _)] at hz
  exact absurd hz (Nat.lt_irrefl 0)
theorem or_gt {s k n : Nat} (hs : s < 2 ^ n) (hk : k < n) (hb : s.testBit k = false) : s < s ||| 2 ^ k ∧ s ||| 2 ^ k < 2 ^ n := by
  constructor
  · rcases Nat.lt_or_eq_of_le (Nat.left_le_or (n := s) (m := 2 ^ k)) with q | q
    · exact q
    · have := tb_or (s := s) (k := k) (j := k)
      rw [← q, hb, decide_eq_true rfl] at this
      exact absurd this (by decide)
  · exact Nat.or_lt_two_pow hs (Nat.pow_lt_pow_right (by decide) hk)
def rwS (T : Nat → Nat) (s : Nat) : Nat → Nat
  | 0 => 0
  | k + 1 => rwS T s k + (if s.testBit k = true then 0 else T (s ||| 2 ^ k))
/-- how many rows are left, the sets from m last ones on -/
noncomputable def rwT (w h : Nat) (kf kt : Nat → Int32) (un : Nat → Nat) (n : Nat) : Nat → Nat → Nat
  | 0, _ => 0
  | m + 1, x => if x = 2 ^ n - 1 - m then @ite _ (fair w h (csF kf kt un x n)) (Classical.propDecidable _) (if m = 0 then 1 else rwS (rwT w h kf kt un n m) x n) 0 else rwT w h kf kt un n m x
theorem rwT_n {w h : Nat} {kf kt : Nat → Int32} {un : Nat → Nat} {n m x : Nat} (hx : ¬ x = 2 ^ n - 1 - m) : rwT w h kf kt un n (m + 1) x = rwT w h kf kt un n m x := if_neg hx
theorem rwT_e {w h : Nat} {kf kt : Nat → Int32} {un : Nat → Nat} {n m x : Nat} (hx : x = 2 ^ n - 1 - m) : rwT w h kf kt un n (m + 1) x = @ite _ (fair w h (csF kf kt un x n)) (Classical.propDecidable _) (if m = 0 then 1 else rwS (rwT w h kf kt un n m) x n) 0 := if_pos hx
theorem rwT_st {w h : Nat} {kf kt : Nat → Int32} {un : Nat → Nat} {n x m : Nat} (hx : x < 2 ^ n) (hm : 2 ^ n - m ≤ x) : ∀ {d : Nat}, m + d ≤ 2 ^ n → rwT w h kf kt un n (m + d) x = rwT w h kf kt un n m x
  | 0, _ => rfl
  | d + 1, hd => by
    rw [show m + (d + 1) = (m + d) + 1 by omega, rwT_n (by omega)]
    exact rwT_st hx hm (by omega)
def fac : Nat → Nat
  | 0 => 1
  | n + 1 => (n + 1) * fac n
theorem fac_pos : ∀ {n : Nat}, 1 ≤ fac n
  | 0 => Nat.le_refl _
  | n + 1 => Nat.mul_pos (Nat.succ_pos n) fac_pos
theorem fac_mono {a : Nat} : ∀ {d : Nat}, fac a ≤ fac (a + d)
  | 0 => Nat.le_refl _
  | d + 1 => Nat.le_trans (fac_mono (d := d)) (Nat.le_mul_of_pos_left _ (Nat.succ_pos _))
theorem rwS_le {T : Nat → Nat} {s M : Nat} : ∀ {n : Nat}, (∀ k, k < n → s.testBit k = false → T (s ||| 2 ^ k) ≤ M) → rwS T s n ≤ zc n s * M
  | 0, _ => Nat.le_of_eq (Nat.zero_mul M).symm
  | n + 1, h => by
    have ih := rwS_le (n := n) (fun k hk => h k (by omega))
    unfold rwS zc
    by_cases c : s.testBit n = true
    · rw [if_pos c, if_pos c]; exact ih
    · rw [if_neg c, if_neg c, Nat.add_mul, Nat.one_mul]
      exact Nat.add_le_add ih (h n (by omega) (by simpa using c))
theorem rwT_le {w h : Nat} {kf kt : Nat → Int32} {un : Nat → Nat} {n : Nat} : ∀ {m x : Nat}, m ≤ 2 ^ n → x < 2 ^ n → rwT w h kf kt un n m x ≤ fac (zc n x)
  | 0, _, _, _ => Nat.zero_le _
  | m + 1, x, hm, hx => by
    by_cases e : x = 2 ^ n - 1 - m
    · rw [rwT_e e]
      by_cases f : fair w h (csF kf kt un x n)
      · rw [@if_pos _ (Classical.propDecidable _) f]
        split
        · exact fac_pos
        · have hb := rwS_le (T := rwT w h kf kt un n m) (s := x) (M := fac (zc n x - 1)) (n := n) (fun k hk hbit => by
            have o := or_gt hx hk hbit
            have z := zc_or hbit hk
            have := rwT_le (w := w) (h := h) (kf := kf) (kt := kt) (un := un) (m := m) (x := x ||| 2 ^ k) (by omega) o.2
            rw [show zc n x - 1 = zc n (x ||| 2 ^ k) by omega]
            exact this)
          refine Nat.le_trans hb ?_
          rcases Nat.eq_zero_or_pos (zc n x) with q | q
          · rw [q, Nat.zero_mul]; exact Nat.zero_le _
          · obtain ⟨z, hz⟩ : ∃ z, zc n x = z + 1 := ⟨zc n x - 1, by omega⟩
            rw [hz]
            exact Nat.le_refl _
      · rw [@if_neg _ (Classical.propDecidable _) f]; exact Nat.zero_le _
    · rw [rwT_n e]
      exact rwT_le (by omega) hx
theorem rwT_31 {w h : Nat} {kf kt : Nat → Int32} {un : Nat → Nat} {n m x : Nat} (hn : n ≤ 10) (hm : m ≤ 2 ^ n) (hx : x < 2 ^ n) : rwT w h kf kt un n m x < 2 ^ 31 := by
  have h1 := rwT_le (w := w) (h := h) (kf := kf) (kt := kt) (un := un) hm hx
  have h2 := zc_le (s := x) (n := n)
  have h3 := fac_mono (a := zc n x) (d := 10 - zc n x)
  rw [show zc n x + (10 - zc n x) = 10 by omega] at h3
  have h4 : fac 10 = 3628800 := by decide +kernel
  omega
/-- a partial sum stays small, too -/
theorem rwS_mono {T : Nat → Nat} {s k : Nat} : ∀ {d : Nat}, rwS T s k ≤ rwS T s (k + d)
  | 0 => Nat.le_refl _
  | d + 1 => Nat.le_trans (rwS_mono (d := d)) (Nat.le_add_right _ _)
theorem rwS_31 {w h : Nat} {kf kt : Nat → Int32} {un : Nat → Nat} {n m x k : Nat} (hn : n ≤ 10) (hm : m ≤ 2 ^ n) (hx : x < 2 ^ n) (hk : k ≤ n) : rwS (rwT w h kf kt un n m) x k < 2 ^ 31 := by
  have hb := rwS_le (T := rwT w h kf kt un n m) (s := x) (M := 3628800) (n := k) (fun i hi hbit => by
    have o := or_gt hx (show i < n by omega) hbit
    have h1 := rwT_le (w := w) (h := h) (kf := kf) (kt := kt) (un := un) hm o.2
    have h2 := zc_le (s := x ||| 2 ^ i) (n := n)
    have h3 := fac_mono (a := zc n (x ||| 2 ^ i)) (d := 10 - zc n (x ||| 2 ^ i))
    rw [show zc n (x ||| 2 ^ i) + (10 - zc n (x ||| 2 ^ i)) = 10 by omega] at h3
    have h4 : fac 10 = 3628800 := by decide +kernel
    omega)
  have := zc_le (s := x) (n := k)
  have h5 : zc k x * 3628800 ≤ 10 * 3628800 := Nat.mul_le_mul_right _ (by omega)
  omega
/-- the first side that goes on -/
def fgN (T : Nat → Nat) (s : Nat) : Nat → Nat → Nat
  | 0, k => k
  | m + 1, k => if s.testBit k = false ∧ 0 < T (s ||| 2 ^ k) then k else fgN T s m (k + 1)
theorem fgN_s {T : Nat → Nat} {s m k : Nat} : fgN T s (m + 1) k = if s.testBit k = false ∧ 0 < T (s ||| 2 ^ k) then k else fgN T s m (k + 1) := rfl
theorem fgN_ex {T : Nat → Nat} {s : Nat} : ∀ {m k : Nat}, (∃ i, k ≤ i ∧ i < k + m ∧ s.testBit i = false ∧ 0 < T (s ||| 2 ^ i)) → fgN T s m k < k + m ∧ s.testBit (fgN T s m k) = false ∧ 0 < T (s ||| 2 ^ (fgN T s m k))
  | 0, k, ⟨i, h1, h2, _⟩ => by omega
  | m + 1, k, ⟨i, h1, h2, h3, h4⟩ => by
    rw [fgN_s]
    by_cases c : s.testBit k = false ∧ 0 < T (s ||| 2 ^ k)
    · rw [if_pos c]; exact ⟨by omega, c⟩
    · rw [if_neg c]
      have ne : ¬ i = k := fun e => c (by rw [← e]; exact ⟨h3, h4⟩)
      have := fgN_ex (T := T) (s := s) (m := m) (k := k + 1) ⟨i, by omega, by omega, h3, h4⟩
      exact ⟨by omega, this.2⟩
def chN (T : Nat → Nat) (n : Nat) : Nat → Nat
  | 0 => 0
  | s + 1 => chN T n s ||| 2 ^ (fgN T (chN T n s) n 0)
theorem rwS_pos {T : Nat → Nat} {s : Nat} : ∀ {n : Nat}, 0 < rwS T s n → ∃ k, k < n ∧ s.testBit k = false ∧ 0 < T (s ||| 2 ^ k)
  | 0, h => absurd h (Nat.lt_irrefl 0)
  | n + 1, h => by
    unfold rwS at h
    by_cases c : s.testBit n = true
    · rw [if_pos c] at h
      obtain ⟨k, h1, h2⟩ := rwS_pos (n := n) h
      exact ⟨k, by omega, h2⟩
    · rw [if_neg c] at h
      rcases Nat.eq_zero_or_pos (T (s ||| 2 ^ n)) with q | q
      · rw [q] at h
        obtain ⟨k, h1, h2⟩ := rwS_pos (n := n) h
        exact ⟨k, by omega, h2⟩
      · exact ⟨n, by omega, by simpa using c, q⟩
theorem zc_0 : ∀ {n : Nat}, zc n 0 = n
  | 0 => rfl
  | n + 1 => by unfold zc; rw [zc_0, Nat.zero_testBit]; rfl
/-- where a row goes on from a set, there is a next side -/
theorem rw_next {w h : Nat} {kf kt : Nat → Int32} {un : Nat → Nat} {n s : Nat} (hs : s < 2 ^ n) (hT : 0 < rwT w h kf kt un n (2 ^ n) s) (hz : 0 < zc n s) : ∃ k, k < n ∧ s.testBit k = false ∧ 0 < rwT w h kf kt un n (2 ^ n) (s ||| 2 ^ k) := by
  have hne := zc_full hs hz
  obtain ⟨m, hm⟩ : ∃ m, m = 2 ^ n - 1 - s := ⟨_, rfl⟩
  have e1 := rwT_st (w := w) (h := h) (kf := kf) (kt := kt) (un := un) hs (m := m + 1) (by omega) (d := 2 ^ n - (m + 1)) (by omega)
  rw [show m + 1 + (2 ^ n - (m + 1)) = 2 ^ n by omega] at e1
  rw [e1, rwT_e (by omega), if_neg (show ¬ m = 0 by omega)] at hT
  have hS : 0 < rwS (rwT w h kf kt un n m) s n := by
    by_cases f : fair w h (csF kf kt un s n)
    · rw [@if_pos _ (Classical.propDecidable _) f] at hT; exact hT
    · rw [@if_neg _ (Classical.propDecidable _) f] at hT; exact absurd hT (Nat.lt_irrefl 0)
  obtain ⟨k, h1, h2, h3⟩ := rwS_pos hS
  have o := or_gt hs h1 h2
  have e2 := rwT_st (w := w) (h := h) (kf := kf) (kt := kt) (un := un) o.2 (m := m) (by omega) (d := 2 ^ n - m) (by omega)
  rw [show m + (2 ^ n - m) = 2 ^ n by omega] at e2
  exact ⟨k, h1, h2, by rw [e2]; exact h3⟩
theorem ch_ok {w h : Nat} {kf kt : Nat → Int32} {un : Nat → Nat} {n : Nat} (hT : 0 < rwT w h kf kt un n (2 ^ n) 0) : ∀ {s : Nat}, s ≤ n → chN (rwT w h kf kt un n (2 ^ n)) n s < 2 ^ n ∧ 0 < rwT w h kf kt un n (2 ^ n) (chN (rwT w h kf kt un n (2 ^ n)) n s) ∧ zc n (chN (rwT w h kf kt un n (2 ^ n)) n s) = n - s
  | 0, _ => ⟨Nat.two_pow_pos n, hT, zc_0⟩
  | s + 1, hs => by
    obtain ⟨h1, h2, h3⟩ := ch_ok hT (s := s) (by omega)
    obtain ⟨k, k1, k2, k3⟩ := rw_next h1 h2 (by omega)
    obtain ⟨f1, f2, f3⟩ := fgN_ex (m := n) (k := 0) ⟨k, Nat.zero_le _, by omega, k2, k3⟩
    rw [Nat.zero_add] at f1
    have o := or_gt h1 f1 f2
    have z := zc_or f2 f1
    exact ⟨o.2, f3, by show zc n (_ ||| _) = _; omega⟩
theorem fg_ok {w h : Nat} {kf kt : Nat → Int32} {un : Nat → Nat} {n : Nat} (hT : 0 < rwT w h kf kt un n (2 ^ n) 0) {s : Nat} (hs : s < n) : fgN (rwT w h kf kt un n (2 ^ n)) (chN (rwT w h kf kt un n (2 ^ n)) n s) n 0 < n ∧ (chN (rwT w h kf kt un n (2 ^ n)) n s).testBit (fgN (rwT w h kf kt un n (2 ^ n)) (chN (rwT w h kf kt un n (2 ^ n)) n s) n 0) = false := by
  obtain ⟨h1, h2, h3⟩ := ch_ok hT (s := s) (by omega)
  obtain ⟨k, k1, k2, k3⟩ := rw_next h1 h2 (by omega)
  obtain ⟨f1, f2, f3⟩ := fgN_ex (m := n) (k := 0) ⟨k, Nat.zero_le _, by omega, k2, k3⟩
  exact ⟨by omega, f2⟩
/-! bits of plain numbers -/
theorem bt_nI {m r : Nat} : bt (nI m) r = (decide (r < 32) && m.testBit r) := by
  show (BitVec.ofNat 32 m).getLsbD r = _
  rw [BitVec.getLsbD_ofNat]
theorem nI_or {s k : Nat} (hk : k < 32) : nI s ||| (1 <<< (nI k &&& 31)) = nI (s ||| 2 ^ k) := by
  refine bt_ext (fun r hr => ?_)
  rw [bt_or, bt_bit hk hr, bt_nI, bt_nI, tb_or, decide_eq_true hr]
  simp only [Bool.true_and]
  by_cases e : r = k
  · rw [decide_eq_true e, decide_eq_true e.symm]
  · rw [decide_eq_false e, decide_eq_false (fun z => e z.symm)]
theorem nI_tb {s k : Nat} (hk : k < 32) : ((nI s >>> (nI k &&& 31)) &&& 1) = if s.testBit k = true then 1 else 0 := by
  rw [bt_shr hk, bt_nI, decide_eq_true hk, Bool.true_and]
theorem pw10 : ∀ n ∈ List.range 11, (1 : Int32) <<< (nI n &&& 31) = nI (2 ^ n) := by decide +kernel
theorem mh_cmp0 {x y : Int64} : lg_cmp x y = 0 ↔ x = y := by
  unfold lg_cmp
  grind
