/-! fields and arrays over the small heap -/
def mhUF (F : mhF) (a k : Nat) (x : Int32) : mhF := fun b j => if b = a ∧ j = k then x else F b j
def mhUI (I : mhI) (a : Nat) (i x : Int32) : mhI := fun b j => if b = a ∧ j = i then x else I b j
def mhUJ (J : mhJ) (a : Nat) (i : Int32) (x : Int64) : mhJ := fun b j => if b = a ∧ j = i then x else J b j
def mhUP (P : mhP) (a : Nat) (i : Int32) (x : Option Nat) : mhP := fun b j => if b = a ∧ j = i then x else P b j
/-- the link of a field's reading: class of the reader, entry, class of the object (its number), field -/
def mhFl (own : String) (ix ci k : Nat) : Prop := ∃ (C : String) (T : u_T) (N : Nat), vwCl[ci]? = some (C, T, N) ∧ (∀ w ∈ u_ws C T N, w ∈ mhT) ∧ k < N ∧ Cond.fieldLink own ix (T k).1 (T k).2.1 (T k).2.2.1 ∈ mhT
/-- and of its writing: its type, whether it is final -/
def mhFw (own : String) (ix ci k : Nat) (ty : FieldType) (fin : Bool) : Prop := ∃ (C : String) (T : u_T) (N : Nat) (ty0 : Nat → FieldType), vwCl[ci]? = some (C, T, N) ∧ (∀ w ∈ u_ws C T N, w ∈ mhT) ∧ k < N ∧ Cond.fieldLink own ix (T k).1 (T k).2.1 (T k).2.2.1 ∈ mhT ∧
  (∀ k, k < N → parseFieldDescriptor (T k).2.2.1 = some (ty0 k)) ∧ (∀ a, a < N → ∀ b, b < N → a ≠ b → (T a).2.1 ≠ (T b).2.1) ∧ ty0 k = ty ∧ (T k).2.2.2 = fin ∧ (T k).1 = own
theorem mh_clamp {i : Int32} {n : Nat} (h : vp_in i n) : nI i.toNatClampNeg = i ∧ i.toNatClampNeg < n := by
  have h1 := vp_in_iff.mp h
  refine ⟨?_, Nat.not_le.mp fun q => h (Or.inr q)⟩
  have h0 : ¬ i < 0 := fun q => h (Or.inl q)
  obtain ⟨j, hj, rfl⟩ := nI_of h0
  rw [nI_clamp hj]
theorem mh_nIeq {i : Int32} {n j : Nat} (h : vp_in i n) (hn : n < 2 ^ 31) (hj : j < n) : nI j = i ↔ j = i.toNatClampNeg := by
  obtain ⟨h1, h2⟩ := mh_clamp h
  constructor
  · intro e
    rw [← e, nI_clamp (by omega)]
  · intro e
    rw [e, h1]
section MHC
variable {l : Launch} {K : mhX} {M : mhM} {kc ks : Nat} {Φ : mhQ} {pc q : Nat} {lo : List (Option Value)} {st : List Value} {S : List mhS} {F : mhF} {I : mhI} {J : mhJ} {P : mhP}
theorem mh_getI {a ci k ix : Nat} {rs : List (Option (Option Nat))} (hf : mhFl M.1.cls ix ci k) (hd : decode M.2.1 pc = .ok (.getfield ix, 3)) (hq : pc + 3 = q) (hS : S[a]? = some (.inr (ci, rs))) (hr : rs[k]? = some none) (kk : mhV l K M kc ks Φ q lo (.int (F a k) :: st) S F I J P) : mhV l K M kc ks Φ pc lo (.ref a :: st) S F I J P := by
  intro p e s m args below meth c Q MC MS hF h1 h2 hR H locs cells slots ls hrp hS' hl hc hs
  subst hq
  obtain ⟨C, T, N, f1, f2, f3, f4⟩ := hf
  exact va_get (D := K.1) (cl := vwCl) (tys := mhTys K) hF.1 hF.2.1 hF.2.2.2.2.1 f2 hF.2.2.2.1 hF.2.2.2.2.2.1.1 hrp.2 a (mhW_get hS) f1 k f3 (hF.2.2.2.2.1 _ f4) (fun _ h => h) (v := .int (F a k)) (by simp [List.getElem?_mapIdx, hr, mhFld]) hd (kk p e s m args below meth c Q MC MS hF h1 h2 hR H locs cells slots ls hrp hS' hl hc hs)
theorem mh_getR {a ci k ix r : Nat} {rs : List (Option (Option Nat))} (hf : mhFl M.1.cls ix ci k) (hd : decode M.2.1 pc = .ok (.getfield ix, 3)) (hq : pc + 3 = q) (hS : S[a]? = some (.inr (ci, rs))) (hr : rs[k]? = some (some (some r))) (kk : mhV l K M kc ks Φ q lo (.ref r :: st) S F I J P) : mhV l K M kc ks Φ pc lo (.ref a :: st) S F I J P := by
  intro p e s m args below meth c Q MC MS hF h1 h2 hR H locs cells slots ls hrp hS' hl hc hs
  subst hq
  obtain ⟨C, T, N, f1, f2, f3, f4⟩ := hf
  exact va_get (D := K.1) (cl := vwCl) (tys := mhTys K) hF.1 hF.2.1 hF.2.2.2.2.1 f2 hF.2.2.2.1 hF.2.2.2.2.2.1.1 hrp.2 a (mhW_get hS) f1 k f3 (hF.2.2.2.2.1 _ f4) (fun _ h => h) (v := .ref (K.2.2.1 + r)) (by simp [List.getElem?_mapIdx, hr, mhFld]) hd (kk p e s m args below meth c Q MC MS hF h1 h2 hR H locs cells slots ls hrp hS' hl hc hs)
theorem mhCell_F {F' : mhF} {b : Nat} {sh : mhS} (h : ∀ k, F' b k = F b k) : mhCell K F' I J P b sh = mhCell K F I J P b sh := by
  cases sh with
  | inl x => rfl
  | inr x => simp only [mhCell, h]
theorem mhCell_I {I' : mhI} {b : Nat} {sh : mhS} (h : ∀ k, I' b k = I b k) : mhCell K F I' J P b sh = mhCell K F I J P b sh := by
  cases sh with
  | inl x =>
    obtain ⟨t, n⟩ := x
    match t with
    | 0 => simp only [mhCell, mhArr, h]
    | 1 => simp only [mhCell, mhArr]
    | 2 => simp only [mhCell, mhArr, h]
    | t + 3 => simp only [mhCell, mhArr]
  | inr x => rfl
theorem mhCell_J {J' : mhJ} {b : Nat} {sh : mhS} (h : ∀ k, J' b k = J b k) : mhCell K F I J' P b sh = mhCell K F I J P b sh := by
  cases sh with
  | inl x =>
    obtain ⟨t, n⟩ := x
    match t with
    | 0 => simp only [mhCell, mhArr]
    | 1 => simp only [mhCell, mhArr, h]
    | 2 => simp only [mhCell, mhArr]
    | t + 3 => simp only [mhCell, mhArr]
  | inr x => rfl
theorem mhCell_P {P' : mhP} {b : Nat} {sh : mhS} (h : ∀ k, P' b k = P b k) : mhCell K F I J P' b sh = mhCell K F I J P b sh := by
  cases sh with
  | inl x =>
    obtain ⟨t, n⟩ := x
    match t with
    | 0 => simp only [mhCell, mhArr]
    | 1 => simp only [mhCell, mhArr]
    | 2 => simp only [mhCell, mhArr]
    | t + 3 => simp only [mhCell, mhArr, h]
  | inr x => rfl
theorem mhUF_ne {a k b j : Nat} {x : Int32} (h : b ≠ a) : mhUF F a k x b j = F b j := if_neg fun e => h e.1
theorem mhUI_ne {a b : Nat} {i j x : Int32} (h : b ≠ a) : mhUI I a i x b j = I b j := if_neg fun e => h e.1
theorem mhUJ_ne {a b : Nat} {i j : Int32} {x : Int64} (h : b ≠ a) : mhUJ J a i x b j = J b j := if_neg fun e => h e.1
theorem mhUP_ne {a b : Nat} {i j : Int32} {x : Option Nat} (h : b ≠ a) : mhUP P a i x b j = P b j := if_neg fun e => h e.1
theorem mh_fs_setI {a ci k : Nat} {rs : List (Option (Option Nat))} {x : Int32} (hr : rs[k]? = some none) : ((rs.mapIdx fun j r => mhFld K (F a j) r).set k (.int x)) = rs.mapIdx fun j r => mhFld K (mhUF F a k x a j) r := by
  apply List.ext_getElem?
  intro j
  have hk := (List.getElem?_eq_some_iff.mp hr).1
  by_cases hj : j = k
  · subst hj
    rw [List.getElem?_set_self (by simpa using hk)]
    simp [List.getElem?_mapIdx, hr, mhFld, mhUF]
  · rw [List.getElem?_set_ne (Ne.symm hj)]
    simp [List.getElem?_mapIdx, mhUF, hj]
theorem mhRep_put {S' : List mhS} {F' : mhF} {I' : mhI} {J' : mhJ} {P' : mhP} {a : Nat} {sh' : mhS} {H H1 : Heap} (h : mhRep K S F I J P H) (ha : a < S.length) (hS' : S' = S.set a sh') (z : H1.size = H.size) (oq : ∀ q : Nat, q ≠ K.2.2.1 + a → H1[q]? = H[q]?) (e : va_at K.1 vwCl (K.2.2.1 + a, mhCell K F' I' J' P' a sh') H1)
    (ho : ∀ b sh, b ≠ a → S[b]? = some sh → mhCell K F' I' J' P' b sh = mhCell K F I J P b sh) : mhRep K S' F' I' J' P' H1 := by
  refine ⟨by rw [z, h.1, hS', List.length_set], ?_⟩
  obtain ⟨sh, hsh⟩ : ∃ sh, S[a]? = some sh := ⟨S[a], List.getElem?_eq_getElem ha⟩
  rw [← mhW_set hS' ha _ rfl ho]
  exact h.2.set mhW_D (mhW_get hsh) e oq
theorem mh_same {a : Nat} {sh : mhS} (h : S[a]? = some sh) : S = S.set a sh := by
  apply List.ext_getElem?
  intro b
  by_cases hb : b = a
  · subst hb; rw [List.getElem?_set_self (List.getElem?_eq_some_iff.mp h).1, h]
  · rw [List.getElem?_set_ne (Ne.symm hb)]
/-- writing a field, whatever comes to it -/
theorem mh_putG {a ci k ix : Nat} {rs rs' : List (Option (Option Nat))} {F' : mhF} {v : Value} {ty : FieldType} (hf : mhFw M.1.cls ix ci k ty false ∨ (mhFw M.1.cls ix ci k ty true ∧ M.1.name = "<init>")) (hn : narrow ty (mhTr K v) = mhTr K v) (hfit : fits ty (mhTr K v) = true) (hd : decode M.2.1 pc = .ok (.putfield ix, 3)) (hq : pc + 3 = q) (hS : S[a]? = some (.inr (ci, rs))) (hk0 : k < rs.length)
    (hset : ((rs.mapIdx fun j r => mhFld K (F a j) r).set k (mhTr K v)) = rs'.mapIdx fun j r => mhFld K (F' a j) r) (hF' : ∀ b j, b ≠ a → F' b j = F b j) (kk : mhV l K M kc ks Φ q lo st (S.set a (.inr (ci, rs'))) F' I J P) : mhV l K M kc ks Φ pc lo (v :: .ref a :: st) S F I J P := by
  intro p e s m args below meth c Q MC MS hF h1 h2 hR H locs cells slots ls hrp hS' hl hc hs
  subst hq
  have hlt := (List.getElem?_eq_some_iff.mp hS).1
  have hlen : k < (rs.mapIdx fun j r => mhFld K (F a j) r).length := by rw [List.length_mapIdx]; exact hk0
  have go : ∀ (C : String) (T : u_T) (N : Nat), vwCl[ci]? = some (C, T, N) → k < N → (∀ a, a < N → ∀ b, b < N → a ≠ b → (T a).2.1 ≠ (T b).2.1) → ∀ (ty0 : Nat → FieldType), (∀ k, k < N → parseFieldDescriptor (T k).2.2.1 = some (ty0 k)) → (∀ w ∈ u_ws C T N, w ∈ mhT) → ∀ (cell : Cell), (∀ j, j < N → cell.slots[(K.1.2 ci) j]? = some (vp_V (rs.mapIdx fun j r => mhFld K (F a j) r) j)) → cell.cls = K.1.1 ci → cell.vm = .none →
      ∀ (H1 : Heap) (sl : Nat), sl = K.1.2 ci k → H1[K.2.2.1 + a]? = some (cell.setSlot sl (mhTr K v)) → H1.size = H.size → (∀ q : Nat, q ≠ K.2.2.1 + a → H1[q]? = H[q]?) → W p l e M.2.2.2.2 s m args below meth c H1 (locs ++ [⟨K.2.2.1 + a, sl⟩]) cells slots Q (F0 m (pc + 3) ls (st.map (mhTr K))) := by
    intro C T N f1 f3 hnm ty0 hty f2 cell q4 q2 q3 H1 sl hsl e1 z oq
    subst hsl
    have hap := va_apart (own := M.1.cls) hF.2.2.2.2.1 f2 ty0 hty hnm hF.2.2.2.2.2.1.1 f1
    refine kk p e s m args below meth c Q MC MS hF h1 h2 hR H1 _ cells slots ls (mhRep_put hrp hlt rfl z oq ?_ (fun b sh hb _ => mhCell_F fun j => hF' b j hb)) (hS'.put z oq (Nat.le_add_right _ _)) hl hc hs
    refine ⟨_, f1, t_OB.to (V := updV (vp_V (rs.mapIdx fun j r => mhFld K (F a j) r)) k (mhTr K v)) ⟨_, e1, q2, q3, t_set q4 hap f3 (mhTr K v)⟩ (fun j _ => ?_)⟩
    rw [vp_updV_set hlen (mhTr K v) j, hset]
  have core : ∀ fin, mhFw M.1.cls ix ci k ty fin → (fin = true → M.1.name = "<init>") → W p l e M.2.2.2.2 s m args below meth c H locs cells slots Q (F0 m pc ls (List.map (mhTr K) (v :: .ref a :: st))) := by
    intro fin hfw hini
    obtain ⟨C, T, N, ty0, f1, f2, f3, f4, f5, f6, f7, f8, f9⟩ := hfw
    obtain ⟨r, g1, cell, q1, q2, q3, q4⟩ := hrp.2 a _ (mhW_get hS)
    have hr : r = (C, T, N) := Option.some.inj (g1.symm.trans f1)
    subst hr
    obtain ⟨hSl, hfc, kC, hkC, hkind⟩ := hF.2.2.2.2.2.1.1.1 ci _ f1
    obtain ⟨cf, kf, fi, f, hi, hsl⟩ := hSl k f3
    have hlay := hF.2.2.2.2.1 _ (f2 _ (u_in_lay f3))
    have hst := (u_facts hfc hkC (u_lays hF.2.2.2.2.1 f2 f3) hi).1
    have hpd : parseFieldDescriptor (T k).2.2.1 = some ty := by rw [f5 k f3, f7]
    unfold u_lay at hlay
    cases hfin : (T k).2.2.2 with
    | false =>
      rw [if_neg (by rw [hfin]; decide)] at hlay
      have h6 := u_store hfc hkC hkind hlay hi hpd hn hfit
      refine W.putK hF.1 hF.2.1 (f := f) ⟨hF.2.2.2.1, hF.2.2.2.2.1 _ f4, ⟨_, _, _, hi⟩, hst⟩ (by rw [q2]; exact h6) q1 q3 (by rw [hsl]; exact k2_hasslot (q4 k f3)) rfl rfl hd fun H' e1 e2 e3 => ?_
      exact go C T N f1 f3 f6 ty0 f5 f2 cell q4 q2 q3 H' _ hsl e1 e2 e3
    | true =>
      rw [if_pos hfin] at hlay
      have hcf : m.cls = cf := by
        obtain ⟨_, _, c', _, _, _, -, -, hf', -, -, -, hown2, -⟩ := Cond.laysFinal_spec hlay
        have e1 : c' = cf := by have := hi.symm.trans hf'; simp at this; exact this.1.symm
        rw [f9] at hown2
        rw [← e1]; exact Option.some.inj (hF.2.2.2.1.symm.trans hown2)
      have h6 := u_fits hfc hkC hkind (Or.inr hlay) hi hpd hn hfit
      refine W.putFinK hF.1 hF.2.1 hF.2.2.2.1 (hF.2.2.2.2.1 _ f4) hi hst hcf (hF.2.2.2.2.2.2.2.1 (hini (by rw [← f8, hfin]))) (by rw [q2]; exact h6) q1 q3 (by rw [hsl]; exact k2_hasslot (q4 k f3)) rfl rfl hd fun H' e1 e2 e3 => ?_
      exact go C T N f1 f3 f6 ty0 f5 f2 cell q4 q2 q3 H' _ hsl e1 e2 e3
  rcases hf with hf | ⟨hf, hi⟩
  · exact core false hf (fun e => by cases e)
  · exact core true hf (fun _ => hi)
theorem mh_putI {a ci k ix : Nat} {rs : List (Option (Option Nat))} {x : Int32} {ty : FieldType} (hf : mhFw M.1.cls ix ci k ty false ∨ (mhFw M.1.cls ix ci k ty true ∧ M.1.name = "<init>")) (hn : narrow ty (.int x) = .int x) (hfit : fits ty (.int x) = true) (hd : decode M.2.1 pc = .ok (.putfield ix, 3)) (hq : pc + 3 = q) (hS : S[a]? = some (.inr (ci, rs))) (hr : rs[k]? = some none) (kk : mhV l K M kc ks Φ q lo st S (mhUF F a k x) I J P) : mhV l K M kc ks Φ pc lo (.int x :: .ref a :: st) S F I J P := by
  refine mh_putG (v := .int x) hf hn hfit hd hq hS (List.getElem?_eq_some_iff.mp hr).1 (mh_fs_setI (ci := ci) hr) (fun b j hb => mhUF_ne hb) ?_
  rw [← mh_same hS]
  exact kk
theorem mh_putR {a ci k ix r : Nat} {rs : List (Option (Option Nat))} {x : Option Nat} {ty : FieldType} (hf : mhFw M.1.cls ix ci k ty false ∨ (mhFw M.1.cls ix ci k ty true ∧ M.1.name = "<init>")) (hty : (∃ n, ty = .object n) ∨ ∃ t, ty = .array t) (hd : decode M.2.1 pc = .ok (.putfield ix, 3)) (hq : pc + 3 = q) (hS : S[a]? = some (.inr (ci, rs))) (hr : rs[k]? = some (some x)) (kk : mhV l K M kc ks Φ q lo st (S.set a (.inr (ci, rs.set k (some (some r))))) F I J P) : mhV l K M kc ks Φ pc lo (.ref r :: .ref a :: st) S F I J P := by
  have hk := (List.getElem?_eq_some_iff.mp hr).1
  refine mh_putG (v := .ref r) (F' := F) hf ?_ ?_ hd hq hS hk ?_ (fun _ _ _ => rfl) kk
  · rcases hty with ⟨n, rfl⟩ | ⟨t, rfl⟩ <;> rfl
  · rcases hty with ⟨n, rfl⟩ | ⟨t, rfl⟩ <;> rfl
  · apply List.ext_getElem?
    intro j
    by_cases hj : j = k
    · subst hj
      rw [List.getElem?_set_self (by simpa using hk)]
      simp [List.getElem?_mapIdx, hk, mhFld, mhTr]
    · rw [List.getElem?_set_ne (Ne.symm hj)]
      simp [List.getElem?_mapIdx, List.getElem?_set_ne (Ne.symm hj)]
/-! arrays -/
theorem mh_iald {a n : Nat} {i : Int32} (hd : decode M.2.1 pc = .ok (.iaload, 1)) (hq : pc + 1 = q) (hS : S[a]? = some (.inl (0, n))) (hin : vp_in i n) (kk : mhV l K M kc ks Φ q lo (.int (I a i) :: st) S F I J P) : mhV l K M kc ks Φ pc lo (.int i :: .ref a :: st) S F I J P := by
  intro p e s m args below meth c Q MC MS hF h1 h2 hR H locs cells slots ls hrp hS' hl hc hs
  subst hq
  refine va_iald (D := K.1) (cl := vwCl) (tys := mhTys K) hF.1 hF.2.1 hF.2.2.2.2.2.1.1 hrp.2 a 0 (mhW_get hS) rfl hin hd ?_
  dsimp only
  rw [if_pos (mh_clamp hin).2, (mh_clamp hin).1]
  exact kk p e s m args below meth c Q MC MS hF h1 h2 hR H locs cells slots ls hrp hS' hl hc hs
theorem mh_alen {a t n : Nat} {v : Int32} (hd : decode M.2.1 pc = .ok (.arraylength, 1)) (hq : pc + 1 = q) (hS : S[a]? = some (.inl (t, n))) (ht : t < 7) (hv : nI n = v) (kk : mhV l K M kc ks Φ q lo (.int v :: st) S F I J P) : mhV l K M kc ks Φ pc lo (.ref a :: st) S F I J P := by
  intro p e s m args below meth c Q MC MS hF h1 h2 hR H locs cells slots ls hrp hS' hl hc hs
  subst hq
  obtain ⟨ty, hty⟩ : ∃ ty, (mhTys K)[t]? = some (K.2.1 t, ty) := by
    match t, ht with
    | 0, _ => exact ⟨_, rfl⟩
    | 1, _ => exact ⟨_, rfl⟩
    | 2, _ => exact ⟨_, rfl⟩
    | 3, _ => exact ⟨_, rfl⟩
    | 4, _ => exact ⟨_, rfl⟩
    | 5, _ => exact ⟨_, rfl⟩
    | 6, _ => exact ⟨_, rfl⟩
    | t + 7, h => omega
  have hx : (mhArr K I J P a n t).1 = n := by
    match t with
    | 0 => rfl
    | 1 => rfl
    | 2 => rfl
    | t + 3 => rfl
  exact va_alen (D := K.1) (cl := vwCl) (tys := mhTys K) hF.1 hF.2.1 hF.2.2.2.2.2.1.1 hrp.2 a t (mhW_get hS) hty (by rw [hx]; exact hv) hd (kk p e s m args below meth c Q MC MS hF h1 h2 hR H locs cells slots ls hrp hS' hl hc hs)
theorem mh_iast {a n : Nat} {i x : Int32} (hd : decode M.2.1 pc = .ok (.iastore, 1)) (hq : pc + 1 = q) (hS : S[a]? = some (.inl (0, n))) (hn : n < 2 ^ 31) (hin : vp_in i n) (kk : mhV l K M kc ks Φ q lo st S F (mhUI I a i x) J P) : mhV l K M kc ks Φ pc lo (.int x :: .int i :: .ref a :: st) S F I J P := by
  intro p e s m args below meth c Q MC MS hF h1 h2 hR H locs cells slots ls hrp hS' hl hc hs
  subst hq
  have hlt := (List.getElem?_eq_some_iff.mp hS).1
  refine W.iast hF.1 hF.2.1 (hrp.2 a _ (mhW_get hS)) ((hF.2.2.2.2.2.1.1.2 0 _ rfl).1 n (fun j => .int (if j < n then I a (nI j) else 0))) (fun q => by cases q) (by show ¬ (i < 0 ∨ (arrV _ _ _).slots.size ≤ _); rw [arrV_size]; exact hin) rfl rfl hd fun H1 e1 z oq => ?_
  refine kk p e s m args below meth c Q MC MS hF h1 h2 hR H1 _ cells slots ls (mhRep_put hrp hlt (mh_same hS) z oq ?_ (fun b sh hb _ => mhCell_I fun j => mhUI_ne hb)) (hS'.put z oq (Nat.le_add_right _ _)) hl hc hs
  show H1[_]? = some (vp_cell _ _)
  rw [e1]
  show some ((arrV (K.2.1 0) n (fun j => Value.int (if j < n then I a (nI j) else 0))).setSlot _ _) = some (arrV (K.2.1 0) n (fun j => Value.int (if j < n then mhUI I a i x a (nI j) else 0)))
  rw [arrV_store]
  congr 2
  funext j
  by_cases hj : j = i.toNatClampNeg
  · subst hj
    simp [updV, mhUI, (mh_clamp hin).1, (mh_clamp hin).2]
  · by_cases hjn : j < n
    · simp [updV, mhUI, hj, hjn, mh_nIeq hin hn hjn]
    · simp [updV, hj, hjn]
end MHC
