/-! ways out, in plain words: from which rooms one is out by at most d open sides -/
def wy (w h : Nat) (kd : Nat → Int32) : Nat → Nat → Prop
  | 0, _ => False
  | d + 1, r => ∃ e, e < 3 ∧ kd (gSide w h r e) = 2 ∧ (gB w h r e = -9 ∨ wy w h kd d (gB w h r e).toNatClampNeg)
theorem wy_s {w h d r : Nat} {kd : Nat → Int32} : wy w h kd (d + 1) r ↔ ∃ e, e < 3 ∧ kd (gSide w h r e) = 2 ∧ (gB w h r e = -9 ∨ wy w h kd d (gB w h r e).toNatClampNeg) := Iff.rfl
theorem wy_mono {w h : Nat} {kd : Nat → Int32} : ∀ {d r : Nat}, wy w h kd d r → wy w h kd (d + 1) r
  | 0, _, h => h.elim
  | d + 1, r, ⟨e, he, hk, hb⟩ => ⟨e, he, hk, hb.imp id (fun z => wy_mono z)⟩
theorem wy_le {w h r : Nat} {kd : Nat → Int32} {d : Nat} (h1 : wy w h kd d r) : ∀ {d' : Nat}, d ≤ d' → wy w h kd d' r := by
  intro d' hd
  induction d' with
  | zero => rw [show d = 0 by omega] at h1; exact h1
  | succ n ih =>
    rcases Nat.lt_or_ge d (n + 1) with q | q
    · exact wy_mono (ih (by omega))
    · rw [show n + 1 = d by omega]; exact h1
theorem gB_nat {w h r e : Nat} (g : gOk w h) (hr : r < gRooms w h) (he : e < 3) (hb : ¬ gB w h r e = -9) : (gB w h r e).toNatClampNeg < gRooms w h ∧ gB w h r e = nI (gB w h r e).toNatClampNeg := by
  rcases gB1 g hr he with z | ⟨q, hq, z⟩
  · exact absurd z hb
  · have := gBd g
    rw [z, nI_clamp (by omega)]
    exact ⟨hq, rfl⟩
theorem wy_stab {w h : Nat} {kd : Nat → Int32} (g : gOk w h) {d : Nat} (hs : ∀ r, r < gRooms w h → wy w h kd (d + 1) r → wy w h kd d r) : ∀ (n r : Nat), r < gRooms w h → wy w h kd (d + n) r → wy w h kd d r := by
  intro n
  induction n with
  | zero => intro r _ h; exact h
  | succ n ih =>
    intro r hr ⟨e, he, hk, hb⟩
    refine hs r hr ⟨e, he, hk, ?_⟩
    by_cases z : gB w h r e = -9
    · exact Or.inl z
    · exact Or.inr (ih _ (gB_nat g hr he z).1 (hb.resolve_left z))
/-- how many of the first n -/
noncomputable def wyC (f : Nat → Prop) : Nat → Nat
  | 0 => 0
  | n + 1 => wyC f n + @ite _ (f n) (Classical.propDecidable _) 1 0
theorem wyC_s {f : Nat → Prop} {n : Nat} : (f n → wyC f (n + 1) = wyC f n + 1) ∧ (¬ f n → wyC f (n + 1) = wyC f n) := by
  constructor
  · intro h; show wyC f n + @ite _ (f n) (Classical.propDecidable _) 1 0 = _; rw [@if_pos _ (Classical.propDecidable _) h]
  · intro h; show wyC f n + @ite _ (f n) (Classical.propDecidable _) 1 0 = _; rw [@if_neg _ (Classical.propDecidable _) h]; rfl
theorem wyC_le {f : Nat → Prop} : ∀ {n : Nat}, wyC f n ≤ n
  | 0 => Nat.le_refl _
  | n + 1 => by
    have := wyC_le (f := f) (n := n)
    by_cases c : f n
    · rw [wyC_s.1 c]; omega
    · rw [wyC_s.2 c]; omega
theorem wyC_mono {f f' : Nat → Prop} : ∀ {n : Nat}, (∀ r, r < n → f r → f' r) → wyC f n ≤ wyC f' n ∧ (∀ r, r < n → f' r → ¬ f r → wyC f n < wyC f' n)
  | 0, _ => ⟨Nat.le_refl _, fun r hr => absurd hr (Nat.not_lt_zero r)⟩
  | n + 1, h => by
    have ih := wyC_mono (n := n) (fun r hr => h r (by omega))
    have a1 := wyC_s (f := f) (n := n)
    have a2 := wyC_s (f := f') (n := n)
    by_cases c : f n
    · have c' := h n (by omega) c
      refine ⟨by rw [a1.1 c, a2.1 c']; omega, fun r hr h1 h2 => ?_⟩
      have : r < n := by
        rcases Nat.lt_or_ge r n with q | q
        · exact q
        · exact absurd c (by rw [show n = r by omega]; exact h2)
      have := ih.2 r this h1 h2
      rw [a1.1 c, a2.1 c']; omega
    · by_cases c' : f' n
      · exact ⟨by rw [a1.2 c, a2.1 c']; omega, fun r hr h1 h2 => by rw [a1.2 c, a2.1 c']; omega⟩
      · refine ⟨by rw [a1.2 c, a2.2 c']; exact ih.1, fun r hr h1 h2 => ?_⟩
        have : r < n := by
          rcases Nat.lt_or_ge r n with q | q
          · exact q
          · exact absurd h1 (by rw [show r = n by omega]; exact c')
        rw [a1.2 c, a2.2 c']
        exact ih.2 r this h1 h2
theorem wyC_all {f : Nat → Prop} : ∀ {n : Nat}, n ≤ wyC f n → ∀ r, r < n → f r
  | 0, _, r, hr => absurd hr (Nat.not_lt_zero r)
  | n + 1, h, r, hr => by
    have l := wyC_le (f := f) (n := n)
    by_cases c : f n
    · rw [wyC_s.1 c] at h
      rcases Nat.lt_or_ge r n with q | q
      · exact wyC_all (n := n) (by omega) r q
      · rw [show r = n by omega]; exact c
    · rw [wyC_s.2 c] at h; omega
/-- a room from which one comes out at all is within as many as there are rooms -/
theorem wy_fix {w h : Nat} {kd : Nat → Int32} (g : gOk w h) {d r : Nat} (hr : r < gRooms w h) (hw : wy w h kd d r) : wy w h kd (gRooms w h) r := by
  rcases Nat.lt_or_ge (gRooms w h) d with q | q
  · have key : ∀ k, k ≤ gRooms w h → (∃ e, e < k ∧ ∀ r, r < gRooms w h → wy w h kd (e + 1) r → wy w h kd e r) ∨ k ≤ wyC (wy w h kd k) (gRooms w h) := by
      intro k
      induction k with
      | zero => exact fun _ => Or.inr (Nat.zero_le _)
      | succ k ih =>
        intro hk
        rcases ih (by omega) with ⟨e, he, hs⟩ | hc
        · exact Or.inl ⟨e, by omega, hs⟩
        · by_cases c : ∀ r, r < gRooms w h → wy w h kd (k + 1) r → wy w h kd k r
          · exact Or.inl ⟨k, by omega, c⟩
          · refine Or.inr ?_
            obtain ⟨x, hx⟩ := Classical.not_forall.mp c
            have hx1 := Classical.not_imp.mp hx
            have hx2 := Classical.not_imp.mp hx1.2
            have := (wyC_mono (f := wy w h kd k) (f' := wy w h kd (k + 1)) (n := gRooms w h) (fun r _ z => wy_mono z)).2 x hx1.1 hx2.1 hx2.2
            omega
    rcases key _ (Nat.le_refl _) with ⟨e, he, hs⟩ | hc
    · have : wy w h kd (e + (d - e)) r := by rw [show e + (d - e) = d by omega]; exact hw
      exact wy_le (wy_stab g hs _ r hr this) (by omega)
    · exact wyC_all hc r hr
  · exact wy_le hw q
/-! bits -/
def bt (x : Int32) (r : Nat) : Bool := x.toBitVec.getLsbD r
theorem bt_ext {x y : Int32} (h : ∀ r, r < 32 → bt x r = bt y r) : x = y := Int32.toBitVec_inj.mp (BitVec.eq_of_getLsbD_eq (fun i hi => h i hi))
theorem bt_or {x y : Int32} {r : Nat} : bt (x ||| y) r = (bt x r || bt y r) := by unfold bt; rw [Int32.toBitVec_or, BitVec.getLsbD_or]
theorem bt_and {x y : Int32} {r : Nat} : bt (x &&& y) r = (bt x r && bt y r) := by unfold bt; rw [Int32.toBitVec_and, BitVec.getLsbD_and]
theorem bt_zero {r : Nat} : bt 0 r = false := by show (0#32).getLsbD r = false; exact BitVec.getLsbD_zero
theorem bt_one {r : Nat} : bt 1 r = decide (r = 0) := by
  show (1#32).getLsbD r = _
  rw [BitVec.getLsbD_one]
  simp
theorem bt_big {x : Int32} {r : Nat} (h : 32 ≤ r) : bt x r = false := BitVec.getLsbD_of_ge _ _ h
theorem shA1 : ∀ k ∈ List.range 32, ((nI k &&& 31).toBitVec.smod 32).toNat = k := by decide +kernel
theorem shA2 : ∀ k ∈ List.range 32, (((nI k).toUInt32 &&& Int32.toUInt32 31).toBitVec % 32).toNat = k := by decide +kernel
theorem bt_shl {x : Int32} {k r : Nat} (hk : k < 32) : bt (x <<< (nI k &&& 31)) r = (decide (r < 32) && !decide (r < k) && bt x (r - k)) := by
  unfold bt
  rw [Int32.toBitVec_shiftLeft, BitVec.shiftLeft_eq', shA1 k (List.mem_range.mpr hk), BitVec.getLsbD_shiftLeft]
theorem bt_bit {k r : Nat} (hk : k < 32) (hr : r < 32) : bt (1 <<< (nI k &&& 31)) r = decide (r = k) := by
  rw [bt_shl hk, bt_one]
  by_cases c : r = k
  · subst c; simp [hr]
  · simp only [c, decide_false]
    by_cases c2 : r < k
    · simp [c2]
    · have : ¬ r - k = 0 := by omega
      simp [this]
theorem bt_shr {x : Int32} {r : Nat} (hr : r < 32) : ((x >>> (nI r &&& 31)) &&& 1) = if bt x r = true then 1 else 0 := by
  refine bt_ext (fun i hi => ?_)
  rw [bt_and, bt_one]
  by_cases c : i = 0
  · subst c
    have e : bt (x >>> (nI r &&& 31)) 0 = bt x r := by
      unfold bt
      rw [Int32.toBitVec_shiftRight, BitVec.getLsbD_sshiftRight', shA1 r (List.mem_range.mpr hr)]
      simp [hr]
    rw [e]
    by_cases z : bt x r = true
    · rw [if_pos z, z, bt_one]; rfl
    · rw [if_neg z, bt_zero]
      simp at z
      simp [z]
  · by_cases z : bt x r = true
    · rw [if_pos z, bt_one]; simp [c]
    · rw [if_neg z, bt_zero]; simp [c]
theorem bt_ushr {x : Int32} {k r : Nat} (hk : k < 32) : bt ((x.toUInt32 >>> ((nI k).toUInt32 &&& Int32.toUInt32 31)).toInt32) r = bt x (k + r) := by
  show (x.toUInt32 >>> ((nI k).toUInt32 &&& Int32.toUInt32 31)).toBitVec.getLsbD r = _
  rw [UInt32.toBitVec_shiftRight, BitVec.ushiftRight_eq', shA2 k (List.mem_range.mpr hk), BitVec.getLsbD_ushiftRight]
  rfl
theorem bt_all {n r : Nat} (hn : n < 31) (hr : r < 32) : bt ((1 <<< (nI n &&& 31)) - 1) r = decide (r < n) := by
  have key : ∀ n ∈ List.range 31, ∀ r ∈ List.range 32, bt ((1 <<< (nI n &&& 31)) - 1) r = decide (r < n) := by decide +kernel
  exact key n (List.mem_range.mpr hn) r (List.mem_range.mpr hr)
def mv (f : Nat → Bool) (s : Int) (r : Nat) : Bool := decide (0 ≤ (r : Int) - s ∧ (r : Int) - s < 32) && f ((r : Int) - s).toNat
/-! where a side's openness is noted -/
def gTo (w e : Nat) : Int := if e = 0 then 1 - 2 * (w : Int) else if e = 1 then -1 else 1
def gSl (w h k : Nat) : Nat := if mhTab w h 1 (nI k) = -9 ∨ mhTab w h 2 (nI k) = -9 then 3 else (mhTab w h 0 (nI k)).toNatClampNeg
def gRo (w h k : Nat) : Nat := if mhTab w h 1 (nI k) = -9 then (mhTab w h 2 (nI k)).toNatClampNeg else (mhTab w h 1 (nI k)).toNatClampNeg
abbrev gE1P (w h k : Nat) : Prop := (if mhTab w h 1 (nI k) = -9 then mhTab w h 2 (nI k) = nI (gRo w h k) else mhTab w h 1 (nI k) = nI (gRo w h k)) ∧ gRo w h k < gRooms w h ∧ gSl w h k < 4 ∧ (¬ mhTab w h 1 (nI k) = -9 → ¬ mhTab w h 2 (nI k) = -9 → mhTab w h 0 (nI k) = nI (gSl w h k)) ∧ (if gSl w h k = 3 then ∃ e ∈ [0, 1, 2], gSide w h (gRo w h k) e = k ∧ gB w h (gRo w h k) e = -9 else (gRo w h k % 2 = 0 ∧ gSide w h (gRo w h k) (gSl w h k) = k ∧ ¬ gB w h (gRo w h k) (gSl w h k) = -9))
theorem gE1l : ∀ w ∈ [1, 2, 3, 4], ∀ h ∈ [1, 2, 3], ∀ k ∈ List.range (gSides w h), gE1P w h k := by decide +kernel
abbrev gE2P (w h r e : Nat) : Prop := if gB w h r e = -9 then gSl w h (gSide w h r e) = 3 ∧ gRo w h (gSide w h r e) = r else (gSl w h (gSide w h r e) = e ∧ gSide w h (gB w h r e).toNatClampNeg e = gSide w h r e ∧ gB w h (gB w h r e).toNatClampNeg e = nI r ∧ (if r % 2 = 0 then gRo w h (gSide w h r e) = r ∧ ((gB w h r e).toNatClampNeg : Int) = r + gTo w e else gRo w h (gSide w h r e) = (gB w h r e).toNatClampNeg ∧ ((gB w h r e).toNatClampNeg : Int) = r - gTo w e))
theorem gE2l : ∀ w ∈ [1, 2, 3, 4], ∀ h ∈ [1, 2, 3], ∀ r ∈ List.range (gRooms w h), ∀ e ∈ [0, 1, 2], gE2P w h r e := by decide +kernel
theorem gE1 {w h k : Nat} (g : gOk w h) (hk : k < gSides w h) : gE1P w h k := gE1l w (gWl g.1 g.2.1) h (gHl g.2.2.1 g.2.2.2) k (List.mem_range.mpr hk)
theorem gE2 {w h r e : Nat} (g : gOk w h) (hr : r < gRooms w h) (he : e < 3) : gE2P w h r e := gE2l w (gWl g.1 g.2.1) h (gHl g.2.2.1 g.2.2.2) r (List.mem_range.mpr hr) e (gDl he)
/-- what is noted of open sides -/
def opN (w h : Nat) (op : Nat → Int32) (kd : Nat → Int32) : Prop := ∀ s r, s < 4 → r < 32 → (bt (op s) r = true ↔ ∃ k, k < gSides w h ∧ kd k = 2 ∧ gSl w h k = s ∧ gRo w h k = r)
theorem opN_b {w h : Nat} {op kd : Nat → Int32} (g : gOk w h) (ho : opN w h op kd) {r : Nat} (hr : r < 32) : bt (op 3) r = true ↔ r < gRooms w h ∧ ∃ e, e < 3 ∧ kd (gSide w h r e) = 2 ∧ gB w h r e = -9 := by
  rw [ho 3 r (by decide) hr]
  constructor
  · rintro ⟨k, hk, h2, h3, rfl⟩
    have t := gE1 g hk
    unfold gE1P at t
    rw [if_pos h3] at t
    obtain ⟨-, t1, -, -, e, he, t2, t3⟩ := t
    refine ⟨t1, e, ?_, by rw [t2]; exact h2, t3⟩
    simp at he
    omega
  · rintro ⟨h1, e, he, h2, h3⟩
    have t := gE2 g h1 he
    unfold gE2P at t
    rw [if_pos h3] at t
    exact ⟨_, (gT1 g h1 he).2.1, h2, t.1, t.2⟩
theorem opN_w {w h : Nat} {op kd : Nat → Int32} (g : gOk w h) (ho : opN w h op kd) {r e : Nat} (hr : r < 32) (he : e < 3) : bt (op e) r = true ↔ r < gRooms w h ∧ r % 2 = 0 ∧ kd (gSide w h r e) = 2 ∧ ¬ gB w h r e = -9 := by
  rw [ho e r (by omega) hr]
  constructor
  · rintro ⟨k, hk, h2, h3, rfl⟩
    have t := gE1 g hk
    unfold gE1P at t
    obtain ⟨-, t1, -, -, tt⟩ := t
    rw [if_neg (show ¬ gSl w h k = 3 by omega), h3] at tt
    obtain ⟨t2, t3, t4⟩ := tt
    exact ⟨t1, t2, by rw [t3]; exact h2, t4⟩
  · rintro ⟨h1, h2, h3, h4⟩
    have t := gE2 g h1 he
    unfold gE2P at t
    rw [if_neg h4, if_pos h2] at t
    exact ⟨_, (gT1 g h1 he).2.1, h3, t.1, t.2.2.2.1⟩
/-- to and fro by one way -/
theorem wid_1 {w h : Nat} {op kd : Nat → Int32} (g : gOk w h) (ho : opN w h op kd) {f : Nat → Bool} {r e : Nat} (hr : r < 32) (he : e < 3) :
    (mv (fun x => f x && bt (op e) x) (gTo w e) r = true ∨ mv (fun x => f x && mv (bt (op e)) (gTo w e) x) (-gTo w e) r = true) ↔ r < gRooms w h ∧ kd (gSide w h r e) = 2 ∧ ¬ gB w h r e = -9 ∧ f (gB w h r e).toNatClampNeg = true := by
  have hb := gBd g
  constructor
  · rintro (c | c)
    · unfold mv at c
      simp only [Bool.and_eq_true, decide_eq_true_eq] at c
      obtain ⟨⟨c1, c2⟩, c3, c4⟩ := c
      obtain ⟨x, hx⟩ : ∃ x : Nat, (x : Int) = (r : Int) - gTo w e := ⟨((r : Int) - gTo w e).toNat, by omega⟩
      rw [← hx] at c3 c4 c2
      simp only [Int.toNat_natCast] at c3 c4
      rw [opN_w g ho (by omega) he] at c4
      obtain ⟨d1, d2, d3, d4⟩ := c4
      have t := gE2 g d1 he
      unfold gE2P at t
      rw [if_neg d4, if_pos d2] at t
      obtain ⟨-, t2, t3, -, t5⟩ := t
      have n := gB_nat g d1 he d4
      have hq : (gB w h x e).toNatClampNeg = r := by omega
      rw [hq] at t2 t3 n
      refine ⟨n.1, by rw [t2]; exact d3, by rw [t3]; exact mh_n9 (by omega), ?_⟩
      rw [t3, nI_clamp (by omega)]
      exact c3
    · unfold mv at c
      simp only [Bool.and_eq_true, decide_eq_true_eq] at c
      obtain ⟨⟨c1, c2⟩, c3, ⟨c4, c5⟩, c6⟩ := c
      obtain ⟨x, hx⟩ : ∃ x : Nat, (x : Int) = (r : Int) - -gTo w e := ⟨((r : Int) - -gTo w e).toNat, by omega⟩
      rw [← hx] at c3 c4 c5 c6
      simp only [Int.toNat_natCast] at c3 c4 c5 c6
      rw [show ((x : Int) - gTo w e).toNat = r by omega, opN_w g ho (by omega) he] at c6
      obtain ⟨d1, d2, d3, d4⟩ := c6
      have t := gE2 g d1 he
      unfold gE2P at t
      rw [if_neg d4, if_pos d2] at t
      obtain ⟨-, t2, t3, -, t5⟩ := t
      refine ⟨d1, d3, d4, ?_⟩
      rw [show (gB w h r e).toNatClampNeg = x by omega]
      exact c3
  · rintro ⟨c1, c2, c3, c4⟩
    have t := gE2 g c1 he
    unfold gE2P at t
    rw [if_neg c3] at t
    obtain ⟨t1, t2, t3, t4⟩ := t
    have n := gB_nat g c1 he c3
    obtain ⟨q, hq⟩ : ∃ q, q = (gB w h r e).toNatClampNeg := ⟨_, rfl⟩
    rw [← hq] at t2 t3 t4 n c4
    by_cases ev : r % 2 = 0
    · rw [if_pos ev] at t4
      refine Or.inr ?_
      unfold mv
      simp only [Bool.and_eq_true, decide_eq_true_eq]
      have e1 : ((r : Int) - -gTo w e).toNat = q := by omega
      rw [e1]
      have e2 : ((q : Int) - gTo w e).toNat = r := by omega
      rw [e2]
      exact ⟨⟨by omega, by omega⟩, c4, ⟨by omega, by omega⟩, (opN_w g ho (by omega) he).mpr ⟨c1, ev, c2, c3⟩⟩
    · rw [if_neg ev] at t4
      refine Or.inl ?_
      unfold mv
      simp only [Bool.and_eq_true, decide_eq_true_eq]
      have e1 : ((r : Int) - gTo w e).toNat = q := by omega
      rw [e1]
      have t6 := gE2 g n.1 he
      unfold gE2P at t6
      have q9 : ¬ gB w h q e = -9 := by rw [t3]; exact mh_n9 (by omega)
      rw [if_neg q9, t3, nI_clamp (by omega)] at t6
      obtain ⟨u1, u2, u3, u4⟩ := t6
      have qe : q % 2 = 0 := by
        rcases Nat.lt_or_ge (q % 2) 1 with z | z
        · omega
        · have t7 := gE1 g (gT1 g c1 he).2.1
          unfold gE1P at t7
          have t8 := t7.2.2.2.2
          rw [t1, if_neg (show ¬ e = 3 by omega), t4.1] at t8
          exact t8.1
      exact ⟨⟨by omega, by omega⟩, c4, (opN_w g ho (by omega) he).mpr ⟨n.1, qe, by rw [t2]; exact c2, q9⟩⟩
