/-! THE SMALL HEAP: what a state of all objects is, in plain data; addresses are places in a list of shapes. -/
/-- where things lie: the tables' numbers, the array classes, the first address, the script -/
abbrev mhX : Type := va_G × (Nat → ClassId) × Nat × (Nat × Nat × (Nat → Int32))
/-- a shape: an array (its sort, its length) or an object (its class, its fields: a number, or a reference) -/
abbrev mhS : Type := (Nat × Nat) ⊕ (Nat × List (Option (Option Nat)))
abbrev mhF : Type := Nat → Nat → Int32
abbrev mhI : Type := Nat → Int32 → Int32
abbrev mhJ : Type := Nat → Int32 → Int64
abbrev mhP : Type := Nat → Int32 → Option Nat
/-- a method: name, code, locals, answer, room -/
abbrev mhM : Type := MethodName × ByteArray × Nat × Option FieldType × Room
abbrev mhQ : Type := Option Value → List mhS → mhF → mhI → mhJ → mhP → Prop
def mhTr (K : mhX) : Value → Value
  | .ref i => .ref (K.2.2.1 + i)
  | .retAddr _ => .ref K.2.2.2.1
  | v => v
def mhTys (K : mhX) : List (ClassId × FieldType) := [(K.2.1 0, .int), (K.2.1 1, .int), (K.2.1 2, .int), (K.2.1 3, .object RX3), (K.2.1 4, .object RX1), (K.2.1 5, .object RX2), (K.2.1 6, .object RX5)]
def mhArr (K : mhX) (I : mhI) (J : mhJ) (P : mhP) (a n : Nat) : Nat → vp_A
  | 0 => (n, .inl fun j => if j < n then I a (nI j) else 0)
  | 1 => (n, .inr (.inl fun j => if j < n then J a (nI j) else 0))
  | 2 => (n, .inl fun j => if j < n then I a (nI j) else 0)
  | _ => (n, .inr (.inr (.inr (.inr fun j => if j < n then (P a (nI j)).map (K.2.2.1 + ·) else none))))
def mhFld (K : mhX) (x : Int32) : Option (Option Nat) → Value
  | none => .int x
  | some none => .null
  | some (some q) => .ref (K.2.2.1 + q)
def mhCell (K : mhX) (F : mhF) (I : mhI) (J : mhJ) (P : mhP) (a : Nat) : mhS → va_E
  | .inl q => .inl (K.2.1 q.1, mhArr K I J P a q.2 q.1)
  | .inr q => .inr (q.1, q.2.mapIdx fun k r => mhFld K (F a k) r)
def mhW (K : mhX) (S : List mhS) (F : mhF) (I : mhI) (J : mhJ) (P : mhP) : va_W := S.mapIdx fun a sh => (K.2.2.1 + a, mhCell K F I J P a sh)
def mhRep (K : mhX) (S : List mhS) (F : mhF) (I : mhI) (J : mhJ) (P : mhP) (H : Heap) : Prop := H.size = K.2.2.1 + S.length ∧ va_P K.1 vwCl (mhW K S F I J P) H
theorem mhW_get {K : mhX} {S : List mhS} {F : mhF} {I : mhI} {J : mhJ} {P : mhP} {a : Nat} {sh : mhS} (h : S[a]? = some sh) : (mhW K S F I J P)[a]? = some (K.2.2.1 + a, mhCell K F I J P a sh) := by
  simp [mhW, List.getElem?_mapIdx, h]
theorem mhW_at {K : mhX} {S : List mhS} {F : mhF} {I : mhI} {J : mhJ} {P : mhP} {a : Nat} {q : Nat × va_E} (h : (mhW K S F I J P)[a]? = some q) : ∃ sh, S[a]? = some sh ∧ q = (K.2.2.1 + a, mhCell K F I J P a sh) := by
  simp only [mhW, List.getElem?_mapIdx, Option.map_eq_some_iff] at h
  obtain ⟨sh, h1, h2⟩ := h
  exact ⟨sh, h1, h2.symm⟩
theorem mhW_D {K : mhX} {S : List mhS} {F : mhF} {I : mhI} {J : mhJ} {P : mhP} : va_D (fun q => K.2.2.1 ≤ q) (mhW K S F I J P) := by
  refine ⟨fun i j p q hi hj hpq => ?_, fun k q hk => ?_⟩
  · obtain ⟨s1, -, rfl⟩ := mhW_at hi
    obtain ⟨s2, -, rfl⟩ := mhW_at hj
    exact Nat.add_left_cancel hpq
  · obtain ⟨s1, -, rfl⟩ := mhW_at hk
    exact Nat.le_add_right _ _
/-- the world with one cell put anew is the world of what is put anew -/
theorem mhW_set {K : mhX} {S S' : List mhS} {F F' : mhF} {I I' : mhI} {J J' : mhJ} {P P' : mhP} {a : Nat} {sh' : mhS} (h' : S' = S.set a sh') (ha : a < S.length) (e : va_E) (he : e = mhCell K F' I' J' P' a sh')
    (ho : ∀ b sh, b ≠ a → S[b]? = some sh → mhCell K F' I' J' P' b sh = mhCell K F I J P b sh) : (mhW K S F I J P).set a (K.2.2.1 + a, e) = mhW K S' F' I' J' P' := by
  apply List.ext_getElem?
  intro b
  subst h'
  by_cases hb : b = a
  · subst hb
    rw [List.getElem?_set_self (by simp [mhW, ha]), mhW_get (by rw [List.getElem?_set_self ha]), he]
  · rw [List.getElem?_set_ne (Ne.symm hb)]
    cases hs : S[b]? with
    | none => simp [mhW, List.getElem?_mapIdx, hs, List.getElem?_set_ne (Ne.symm hb)]
    | some sh => rw [mhW_get hs, mhW_get (by rw [List.getElem?_set_ne (Ne.symm hb), hs]), ho b sh hb hs]
theorem mhW_set0 {K : mhX} {S : List mhS} {F F' : mhF} {I I' : mhI} {J J' : mhJ} {P P' : mhP} {a : Nat} {sh : mhS} (ha : S[a]? = some sh) (e : va_E) (he : e = mhCell K F' I' J' P' a sh)
    (ho : ∀ b sh, b ≠ a → S[b]? = some sh → mhCell K F' I' J' P' b sh = mhCell K F I J P b sh) : (mhW K S F I J P).set a (K.2.2.1 + a, e) = mhW K S F' I' J' P' := by
  have hl := (List.getElem?_eq_some_iff.mp ha).1
  refine mhW_set (sh' := sh) ?_ hl e he ho
  apply List.ext_getElem?
  intro b
  by_cases hb : b = a
  · subst hb; rw [List.getElem?_set_self hl, ha]
  · rw [List.getElem?_set_ne (Ne.symm hb)]
/-! locals -/
def mhL (K : mhX) (n : Nat) (ls : Array Slot) (lo : List (Option Value)) : Prop := ls.size = n ∧ lo.length = n ∧ lv_wf ls ∧ ∀ (i : Nat) (v : Value), lo[i]? = some (some v) → ls[i]? = some (.val (mhTr K v)) ∧ ((mhTr K v).category = 1 ∨ lo[i + 1]? = some none)
def mhLl (K : mhX) (lo : List (Option Value)) : List (Nat × Value) := (List.range lo.length).filterMap fun j => match lo[j]? with
  | some (some v) => some (j, mhTr K v)
  | _ => none
theorem mhLl_mem {K : mhX} {lo : List (Option Value)} {q : Nat × Value} : q ∈ mhLl K lo ↔ ∃ v, lo[q.1]? = some (some v) ∧ q.2 = mhTr K v := by
  unfold mhLl
  rw [List.mem_filterMap]
  constructor
  · rintro ⟨j, hj, h⟩
    split at h
    · rename_i v hv
      cases h
      exact ⟨v, hv, rfl⟩
    · cases h
  · rintro ⟨v, hv, h2⟩
    refine ⟨q.1, List.mem_range.mpr (List.getElem?_eq_some_iff.mp hv).1, ?_⟩
    rw [hv]
    obtain ⟨q1, q2⟩ := q
    cases h2
    rfl
theorem mhL_has {K : mhX} {n : Nat} {ls : Array Slot} {lo : List (Option Value)} (h : mhL K n ls lo) : lv_has ls n (mhLl K lo) := ⟨h.1, h.2.2.1, fun q hq => by
  obtain ⟨v, h1, h2⟩ := mhLl_mem.mp hq
  rw [h2]
  exact (h.2.2.2 _ _ h1).1⟩
theorem mhL_store {K : mhX} {n : Nat} {ls ls' : Array Slot} {lo : List (Option Value)} {i : Nat} {v : Value} (h : mhL K n ls lo) (hi : i < n) (hc : (mhTr K v).category = 1) (hp : ∀ (j : Nat) (w : Value), j + 1 = i → lo[j]? = some (some w) → (mhTr K w).category = 1)
    (h' : lv_has ls' n ((i, mhTr K v) :: (mhLl K lo).filter (fun q => !(q.1 == i) && !(q.1 + 1 == i && q.2.category == 2)))) : mhL K n ls' (lo.set i (some v)) := by
  refine ⟨h'.1, by rw [List.length_set]; exact h.2.1, h'.2.1, fun j w hj => ?_⟩
  by_cases e : j = i
  · subst e
    rw [List.getElem?_set_self (by rw [h.2.1]; exact hi)] at hj
    cases hj
    exact ⟨h'.2.2 _ List.mem_cons_self, Or.inl hc⟩
  · rw [List.getElem?_set_ne (Ne.symm e)] at hj
    have hw := (h.2.2.2 j w hj).2
    refine ⟨h'.2.2 (j, mhTr K w) (List.mem_cons_of_mem _ (List.mem_filter.mpr ⟨mhLl_mem.mpr ⟨w, hj, rfl⟩, ?_⟩)), ?_⟩
    · by_cases e2 : j + 1 = i
      · simp [e, hp j w e2 hj]
      · simp [e, e2]
    · rcases hw with hw | hw
      · exact Or.inl hw
      · by_cases e2 : j + 1 = i
        · exact Or.inl (hp j w e2 hj)
        · right
          rw [List.getElem?_set_ne (Ne.symm e2)]
          exact hw
theorem mhL_store2 {K : mhX} {n : Nat} {ls ls' : Array Slot} {lo : List (Option Value)} {i : Nat} {v : Value} (h : mhL K n ls lo) (hi : i + 1 < n) (hp : ∀ (j : Nat) (w : Value), j + 1 = i → lo[j]? = some (some w) → (mhTr K w).category = 1)
    (h' : lv_has ls' n ((i, mhTr K v) :: (mhLl K lo).filter (fun q => !(q.1 == i) && (!(q.1 == i + 1) && !(q.1 + 1 == i && q.2.category == 2))))) : mhL K n ls' ((lo.set i (some v)).set (i + 1) none) := by
  refine ⟨h'.1, by rw [List.length_set, List.length_set]; exact h.2.1, h'.2.1, fun j w hj => ?_⟩
  by_cases e1 : j = i + 1
  · subst e1
    rw [List.getElem?_set_self (by rw [List.length_set, h.2.1]; exact hi)] at hj
    cases hj
  rw [List.getElem?_set_ne (Ne.symm e1)] at hj
  by_cases e : j = i
  · subst e
    rw [List.getElem?_set_self (by rw [h.2.1]; omega)] at hj
    cases hj
    exact ⟨h'.2.2 _ List.mem_cons_self, Or.inr (List.getElem?_set_self (by rw [List.length_set, h.2.1]; exact hi))⟩
  · rw [List.getElem?_set_ne (Ne.symm e)] at hj
    have hw := (h.2.2.2 j w hj).2
    refine ⟨h'.2.2 (j, mhTr K w) (List.mem_cons_of_mem _ (List.mem_filter.mpr ⟨mhLl_mem.mpr ⟨w, hj, rfl⟩, ?_⟩)), ?_⟩
    · by_cases e2 : j + 1 = i
      · simp [e, e1, hp j w e2 hj]
      · simp [e, e1, e2]
    · rcases hw with hw | hw
      · exact Or.inl hw
      · by_cases e2 : j + 1 = i
        · exact Or.inl (hp j w e2 hj)
        · right
          rw [List.getElem?_set_ne (by omega), List.getElem?_set_ne (Ne.symm e2)]
          exact hw
/-- a place that doesn't hold the first half of a long number -/
def mhN2 (K : mhX) (o : Option Value) : Bool := match o with
  | some v => (mhTr K v).category == 1
  | none => true
theorem mhN2_at {K : mhX} {lo : List (Option Value)} {i : Nat} {o : Option Value} (h : lo[i]? = some o) (hn : mhN2 K o = true) : ∀ (j : Nat) (w : Value), j + 1 = i + 1 → lo[j]? = some (some w) → (mhTr K w).category = 1 := by
  intro j w hj hw
  have e : j = i := by omega
  subst e
  rw [h] at hw
  cases hw
  simpa [mhN2] using hn
theorem mhL_entry {K : mhX} {n : Nat} (vs : List Value) (hc : ∀ v ∈ vs, (mhTr K v).category = 1) (hn : vs.length ≤ n) : mhL K n ((lg_sl (vs.map (mhTr K)) ++ List.replicate (n - (lg_sl (vs.map (mhTr K))).length) Slot.unset).toArray) (vs.map some ++ List.replicate (n - vs.length) none) := by
  have e : ∀ ws : List Value, (∀ v ∈ ws, v.category = 1) → lg_sl ws = ws.map Slot.val := by
    intro ws
    induction ws with
    | nil => intro _; rfl
    | cons a r ih =>
      intro h
      have h1 := ih (fun v hv => h v (List.mem_cons_of_mem _ hv))
      unfold lg_sl at h1 ⊢
      rw [List.flatMap_cons, h1, if_neg (by rw [h a List.mem_cons_self]; decide)]
      rfl
  have e1 := e (vs.map (mhTr K)) (by intro v hv; obtain ⟨w, h1, rfl⟩ := List.mem_map.mp hv; exact hc w h1)
  have hl := lv_entry (vs.map (mhTr K)) (n := n) (by rw [e1]; simpa using hn)
  refine ⟨hl.1, by simp; omega, hl.2.1, fun i v hi => ?_⟩
  rcases Nat.lt_or_ge i vs.length with h | h
  · rw [List.getElem?_append_left (by simpa using h)] at hi
    simp only [List.getElem?_map, Option.map_eq_some_iff, Option.some.injEq] at hi
    obtain ⟨w, h1, rfl⟩ := hi
    refine ⟨?_, Or.inl (hc w (List.mem_of_getElem? h1))⟩
    rw [e1]
    have hw := (List.getElem?_eq_some_iff.mp h1).2
    simp [List.getElem?_append_left, h, h1, hw]
  · rw [List.getElem?_append_right (by simpa using h)] at hi
    simp only [List.getElem?_replicate] at hi
    split at hi <;> cases hi
