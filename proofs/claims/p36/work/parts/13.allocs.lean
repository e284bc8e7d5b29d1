/-! what is made; arrays of references; copying -/
def mhZF (F : mhF) (a : Nat) : mhF := fun b k => if b = a then 0 else F b k
def mhZI (I : mhI) (a : Nat) : mhI := fun b k => if b = a then 0 else I b k
def mhZJ (J : mhJ) (a : Nat) : mhJ := fun b k => if b = a then 0 else J b k
def mhZP (P : mhP) (a : Nat) : mhP := fun b k => if b = a then none else P b k
/-- n cells of src from sp on, put into dst from dp on -/
def mhCp (I : mhI) (src : Nat) (sp : Nat) (dst : Nat) (dp n : Nat) : mhI := fun b j => if b = dst ∧ ¬ j < 0 ∧ dp ≤ j.toNatClampNeg ∧ j.toNatClampNeg < dp + n then I src (nI (sp + (j.toNatClampNeg - dp))) else I b j
section MHN
variable {l : Launch} {K : mhX} {M : mhM} {kc ks : Nat} {Φ : mhQ} {pc q : Nat} {lo : List (Option Value)} {st : List Value} {S : List mhS} {F : mhF} {I : mhI} {J : mhJ} {P : mhP}
theorem mhRep_push {F' : mhF} {I' : mhI} {J' : mhJ} {P' : mhP} {sh : mhS} {H H1 : Heap} (h : mhRep K S F I J P H) (z : H1.size = H.size + 1) (oq : ∀ q : Nat, q < H.size → H1[q]? = H[q]?) (e : va_at K.1 vwCl (H.size, mhCell K F' I' J' P' S.length sh) H1)
    (ho : ∀ b sh, b ≠ S.length → S[b]? = some sh → mhCell K F' I' J' P' b sh = mhCell K F I J P b sh) : mhRep K (S ++ [sh]) F' I' J' P' H1 := by
  refine ⟨by rw [z, h.1, List.length_append]; rfl, fun k x hx => ?_⟩
  obtain ⟨s1, h1, rfl⟩ := mhW_at hx
  rcases Nat.lt_or_ge k S.length with hk | hk
  · rw [List.getElem?_append_left hk] at h1
    have := h.2 k _ (mhW_get h1)
    rw [ho k s1 (by omega) h1]
    exact this.kept (oq _ (by have := this.lt; exact this))
  · rw [List.getElem?_append_right hk] at h1
    have hz : k - S.length < 1 := (List.getElem?_eq_some_iff.mp h1).1
    have hk0 : k = S.length := by omega
    subst hk0
    rw [Nat.sub_self] at h1
    cases h1
    rw [← h.1]
    exact e
theorem mhS_push {H0 H H1 : Heap} {locs : List Loc} {A : Nat → Prop} (h : va_S A H0 H locs) (z : H1.size = H.size + 1) (oq : ∀ q : Nat, q < H.size → H1[q]? = H[q]?) : va_S A H0 H1 locs := ⟨Nat.le_trans h.1 (by omega), fun x h1 h2 => (oq x (Nat.lt_of_lt_of_le h1 h.1)).trans (h.2.1 x h1 h2), h.2.2⟩
theorem mh_new {ci ix : Nat} {C : String} {T : u_T} {N : Nat} {ty0 : Nat → FieldType} {rs : List (Option (Option Nat))} (hd : decode M.2.1 pc = .ok (.new ix, 3)) (hcl : Cond.classLink M.1.cls ix C ∈ mhT) (hinst : Cond.instantiable C N ∈ mhT) (hini : Cond.initialized C ∈ mhT) (hc : vwCl[ci]? = some (C, T, N)) (hin : ∀ w ∈ u_ws C T N, w ∈ mhT) (hty : ∀ k, k < N → parseFieldDescriptor (T k).2.2.1 = some (ty0 k))
    (hrs : ∀ j, j < N → (rs[j]? = some none ∧ defaultValue (ty0 j) = .int 0) ∨ (rs[j]? = some (some none) ∧ defaultValue (ty0 j) = .null)) (hq : pc + 3 = q) (hk : 1 ≤ kc ∧ N ≤ ks) (kk : mhV l K M (kc - 1) (ks - N) Φ q lo (.ref S.length :: st) (S ++ [.inr (ci, rs)]) (mhZF F S.length) I J P) : mhV l K M kc ks Φ pc lo st S F I J P := by
  intro p e s m args below meth c Q MC MS hF h1 h2 hR H locs cells slots ls hrp hS hl hc' hs
  subst hq
  have hKn := hF.2.2.2.2.2.1.1.1 ci _ hc
  refine W.newcK hF.1 hF.2.1 hF.2.2.2.1 (hF.2.2.2.2.1 _ hcl) (hF.2.2.2.2.1 _ hinst) (hF.2.2.2.2.1 _ hini) rfl hd (by omega) (by omega) hKn.2.1 rfl fun H1 kC hkC e1 z1 o1 => ?_
  have hb := u_born ty0 hF.2.2.2.2.1 hin hKn hkC e1 hty
  have hrep := mhRep_push (F' := mhZF F S.length) (I' := I) (J' := J) (P' := P) (sh := .inr (ci, rs)) hrp z1 o1 ⟨_, hc, hb.to (fun j hj => ?_)⟩ (fun b sh hb _ => mhCell_F fun j => if_neg hb)
  · have := kk p e s m args below meth c Q MC MS hF h1 h2 hR H1 locs (cells + 1) (slots + N) ls hrep (mhS_push hS z1 o1) hl (by omega) (by omega)
    rw [List.map_cons, show mhTr K (.ref S.length) = .ref H.size by rw [hrp.1]; rfl] at this
    exact this
  · show defaultValue (ty0 j) = vp_V _ j
    unfold vp_V
    rcases hrs j hj with ⟨h3, h4⟩ | ⟨h3, h4⟩
    · rw [h4, List.getD_eq_getElem?_getD, List.getElem?_mapIdx, h3]
      simp [mhFld, mhZF]
    · rw [h4, List.getD_eq_getElem?_getD, List.getElem?_mapIdx, h3]
      simp [mhFld]
theorem mh_find {s : State} (hG : mhG K s) {t : Nat} {ty : FieldType} {cA : ClassId} (ht : (mhTys K)[t]? = some (K.2.1 t, ty)) (h : s.vm.findClass ("[" ++ ty.toString) = some cA) : cA = K.2.1 t := by
  have h2 := (hG.1.2 t _ ht).2
  cases ty with
  | object C =>
    obtain ⟨_, _, _, _, _, h4⟩ := h2
    exact Option.some.inj (h.symm.trans h4)
  | _ => exact Option.some.inj (h.symm.trans h2)
theorem mh_newI {n : Int32} {N : Nat} (hd : decode M.2.1 pc = .ok (.newarray .int, 2)) (harr : Cond.arrayClass .int ∈ mhT) (hn : ¬ n < 0) (hN : n.toNatClampNeg = N) (hb : N * 4 ≤ 536870912) (hq : pc + 2 = q) (hk : 1 ≤ kc ∧ N ≤ ks) (kk : mhV l K M (kc - 1) (ks - N) Φ q lo (.ref S.length :: st) (S ++ [.inl (0, N)]) F (mhZI I S.length) J P) : mhV l K M kc ks Φ pc lo (.int n :: st) S F I J P := by
  intro p e s m args below meth c Q MC MS hF h1 h2 hR H locs cells slots ls hrp hS hl hc' hs
  subst hq
  refine va_newaK (atype := .int) hF.1 hF.2.1 (hF.2.2.2.2.1 _ harr) rfl hd rfl hn hN hb (by omega) (by omega) rfl fun H1 cA e1 z1 o1 hAr hNm => ?_
  have hcA := mh_find hF.2.2.2.2.2.1 (t := 0) rfl hNm
  subst hcA
  have hrep := mhRep_push (F' := F) (I' := mhZI I S.length) (J' := J) (P' := P) (sh := .inl (0, N)) hrp z1 o1 (by
    show H1[H.size]? = some (arrV (K.2.1 0) N (fun j => .int (if j < N then mhZI I S.length S.length (nI j) else 0)))
    rw [e1]
    congr 2
    funext j
    simp [mhZI, defaultValue, newarray.typeOf]) (fun b sh hb _ => mhCell_I fun j => if_neg hb)
  have := kk p e s m args below meth c Q MC MS hF h1 h2 hR H1 locs (cells + 1) (slots + N) ls hrep (mhS_push hS z1 o1) hl (by omega) (by omega)
  rw [List.map_cons, show mhTr K (.ref S.length) = .ref H.size by rw [hrp.1]; rfl] at this
  exact this
theorem mhArr_ge {a n t : Nat} (ht : 3 ≤ t) : mhArr K I J P a n t = (n, .inr (.inr (.inr (.inr fun j => if j < n then (P a (nI j)).map (K.2.2.1 + ·) else none)))) := by
  match t, ht with
  | t + 3, _ => rfl
theorem mh_newP {ix : Nat} {C : String} {t : Nat} {n : Int32} {N : Nat} (hd : decode M.2.1 pc = .ok (.anewarray ix, 3)) (hcl : Cond.classLink M.1.cls ix C ∈ mhT) (hC : C ∈ mhAOs) (ht : 3 ≤ t) (hty : (mhTys K)[t]? = some (K.2.1 t, .object C)) (hn : ¬ n < 0) (hN : n.toNatClampNeg = N) (hb : N * 4 ≤ 536870912) (hq : pc + 3 = q) (hk : 1 ≤ kc ∧ N ≤ ks) (kk : mhV l K M (kc - 1) (ks - N) Φ q lo (.ref S.length :: st) (S ++ [.inl (t, N)]) F I J (mhZP P S.length)) : mhV l K M kc ks Φ pc lo (.int n :: st) S F I J P := by
  intro p e s m args below meth c Q MC MS hF h1 h2 hR H locs cells slots ls hrp hS hl hc' hs
  subst hq
  refine W.anew hF.1 hF.2.1 hF.2.2.2.1 (hF.2.2.2.2.1 _ hcl) (va_AO.use (hF.2.2.2.2.2.1.2.2 _ hC)) rfl hd rfl hn (by rw [hN]; exact hb) (by omega) (by omega) fun cA kA comp f1 f2 f3 f4 => ?_
  have hcA := mh_find hF.2.2.2.2.2.1 (t := t) hty f1
  subst hcA
  rw [hN]
  generalize hH1 : H.push ({ cls := K.2.1 t, slots := Array.replicate N .null, vm := .none } : Cell) = H1
  have z1 : H1.size = H.size + 1 := by rw [← hH1, Array.size_push]
  have e1 : H1[H.size]? = some (arrV (K.2.1 t) N (fun _ => .null)) := by rw [← hH1, Array.getElem?_push_size, ← arrV_new]
  have o1 : ∀ q : Nat, q < H.size → H1[q]? = H[q]? := fun q hq => by rw [← hH1, Array.getElem?_push, if_neg (Nat.ne_of_lt hq)]
  have hrep := mhRep_push (F' := F) (I' := I) (J' := J) (P' := mhZP P S.length) (sh := .inl (t, N)) hrp z1 o1 (by
    show H1[H.size]? = some (vp_cell (K.2.1 t) (mhArr K I J (mhZP P S.length) S.length N t))
    rw [e1, mhArr_ge ht, vp_cell_q]
    congr 2
    funext j
    simp [mhZP, va_rf]) (fun b sh hb _ => mhCell_P fun j => if_neg hb)
  have := kk p e s m args below meth c Q MC MS hF h1 h2 hR H1 locs (cells + 1) (slots + N) ls hrep (mhS_push hS z1 o1) hl (by omega) (by omega)
  rw [List.map_cons, show mhTr K (.ref S.length) = .ref H.size by rw [hrp.1]; rfl] at this
  exact this
def mhPt (t : Nat) (C : String) : Prop := (t = 3 ∧ C = RX3) ∨ (t = 4 ∧ C = RX1) ∨ (t = 5 ∧ C = RX2) ∨ (t = 6 ∧ C = RX5)
theorem mhPt.ty {t : Nat} {C : String} (h : mhPt t C) : 3 ≤ t ∧ (mhTys K)[t]? = some (K.2.1 t, .object C) := by
  rcases h with ⟨rfl, rfl⟩ | ⟨rfl, rfl⟩ | ⟨rfl, rfl⟩ | ⟨rfl, rfl⟩ <;> exact ⟨by decide, rfl⟩
theorem mh_aaldV {a t n : Nat} {C : String} {i : Int32} (hd : decode M.2.1 pc = .ok (.aaload, 1)) (hq : pc + 1 = q) (ht : mhPt t C) (hS : S[a]? = some (.inl (t, n))) (hin : vp_in i n) {v : Value} (hv : v = match P a i with | none => .null | some r => .ref r) (kk : mhV l K M kc ks Φ q lo (v :: st) S F I J P) : mhV l K M kc ks Φ pc lo (.int i :: .ref a :: st) S F I J P := by
  intro p e s m args below meth c Q MC MS hF h1 h2 hR H locs cells slots ls hrp hS' hl hc hs
  subst hq
  obtain ⟨h3, hty⟩ := ht.ty (K := K)
  refine va_aldq (D := K.1) (cl := vwCl) (tys := mhTys K) (C := C) (f := fun j => if j < n then (P a (nI j)).map (K.2.2.1 + ·) else none) hF.1 hF.2.1 hF.2.2.2.2.2.1.1 hrp.2 a t (by rw [mhW_get hS]; simp only [mhCell, mhArr_ge h3]) hty hin hd ?_
  have := kk p e s m args below meth c Q MC MS hF h1 h2 hR H locs cells slots ls hrp hS' hl hc hs
  rw [if_pos (mh_clamp hin).2, (mh_clamp hin).1]
  have hvv : va_rf (Option.map (fun x => K.2.2.1 + x) (P a i)) = mhTr K v := by
    rw [hv]
    cases P a i <;> rfl
  rw [hvv]
  exact this
theorem mh_aald {a t n r : Nat} {C : String} {i : Int32} (hd : decode M.2.1 pc = .ok (.aaload, 1)) (hq : pc + 1 = q) (ht : mhPt t C) (hS : S[a]? = some (.inl (t, n))) (hin : vp_in i n) (hr : P a i = some r) (kk : mhV l K M kc ks Φ q lo (.ref r :: st) S F I J P) : mhV l K M kc ks Φ pc lo (.int i :: .ref a :: st) S F I J P := mh_aaldV hd hq ht hS hin (by rw [hr]) kk
theorem mh_aaldN {a t n : Nat} {C : String} {i : Int32} (hd : decode M.2.1 pc = .ok (.aaload, 1)) (hq : pc + 1 = q) (ht : mhPt t C) (hS : S[a]? = some (.inl (t, n))) (hin : vp_in i n) (hr : P a i = none) (kk : mhV l K M kc ks Φ q lo (.null :: st) S F I J P) : mhV l K M kc ks Φ pc lo (.int i :: .ref a :: st) S F I J P := mh_aaldV hd hq ht hS hin (by rw [hr]) kk
theorem mh_aast {a t n r ci : Nat} {x : vw_C} {rs : List (Option (Option Nat))} {i : Int32} (hd : decode M.2.1 pc = .ok (.aastore, 1)) (hq : pc + 1 = q) (hx : vwCl[ci]? = some x) (ht : mhPt t x.1) (hS : S[a]? = some (.inl (t, n))) (hn : n < 2 ^ 31) (hin : vp_in i n) (hr : S[r]? = some (.inr (ci, rs))) (kk : mhV l K M kc ks Φ q lo st S F I J (mhUP P a i (some r))) : mhV l K M kc ks Φ pc lo (.ref r :: .int i :: .ref a :: st) S F I J P := by
  intro p e s m args below meth c Q MC MS hF h1 h2 hR H locs cells slots ls hrp hS' hl hc hs
  subst hq
  obtain ⟨h3, hty⟩ := ht.ty (K := K)
  have hlt := (List.getElem?_eq_some_iff.mp hS).1
  have hcell : H[K.2.2.1 + a]? = some (arrV (K.2.1 t) n (fun j => va_rf (if j < n then (P a (nI j)).map (K.2.2.1 + ·) else none))) := by
    have := hrp.2 a _ (mhW_get hS)
    simp only [mhCell, mhArr_ge h3] at this
    exact this
  obtain ⟨r', hr', cellV, g1, g2, g3, -⟩ := hrp.2 r _ (mhW_get hr)
  have hcls := (hF.2.2.2.2.2.1.1.1 ci x hx).2
  obtain ⟨kA, comp, k1, k2, k3, -⟩ := (hF.2.2.2.2.2.1.1.2 t _ hty).2
  have hcomp : comp = K.1.1 ci := Option.some.inj (k3.symm.trans hcls.1)
  subst hcomp
  obtain ⟨kC, hkC, -⟩ := hcls.2
  have h0 : ¬ i < 0 := fun q => hin (Or.inl q)
  refine W.aast hF.1 hF.2.1 hcell (fun q h => by cases h) (fun h => by cases h) k1 k2 rfl hkC ⟨h0, by show _ < (arrV _ _ _).slots.size; rw [arrV_size]; exact (mh_clamp hin).2⟩ g1 (fun q h => by rw [g3] at h; cases h) (by rw [g2]; exact hkC) (by rw [g2]; exact va_assign hcls) rfl rfl hd fun H1 e1 z oq => ?_
  refine kk p e s m args below meth c Q MC MS hF h1 h2 hR H1 _ cells slots ls (mhRep_put hrp hlt (mh_same hS) z oq ?_ (fun b sh hb _ => mhCell_P fun j => mhUP_ne hb)) (hS'.put z oq (Nat.le_add_right _ _)) hl hc hs
  simp only [mhCell, mhArr_ge h3]
  show H1[_]? = some (vp_cell _ _)
  rw [e1, vp_cell_q, arrV_store]
  congr 2
  funext j
  by_cases hj : j = i.toNatClampNeg
  · subst hj
    simp [updV, mhUP, (mh_clamp hin).1, (mh_clamp hin).2, va_rf]
  · by_cases hjn : j < n
    · simp [updV, mhUP, hj, hjn, mh_nIeq hin hn hjn]
    · simp [updV, hj, hjn]
theorem mh_nn {z : Int32} (hz : ¬ z < 0) : z.toInt = (z.toNatClampNeg : Int) := by
  have hz0 : (0 : Int) ≤ z.toInt := by
    have := Int32.not_lt.mp hz
    simpa using Int32.le_iff_toInt_le.mp this
  show z.toInt = ((z.toInt.toNat : Nat) : Int)
  omega
theorem mh_copyI {ix a0 a n0 n1 : Nat} {sp dp n : Int32} (hd : decode M.2.1 pc = .ok (.invokestatic ix, 3)) (hlk : Cond.methodLink M.1.cls ix arraycopyName ∈ mhT) (hnat : Cond.native arraycopyName ∈ mhT) (hsta : Cond.static arraycopyName ∈ mhT) (hini : Cond.initialized "java/lang/System" ∈ mhT) (hfr : 1 ≤ M.2.2.2.2.frames) (hlo : 8 + (nativeFrameWords "java/lang/System" "arraycopy" 5 + 11) ≤ M.2.2.2.2.locals) (hst : (st.map fun v => v.category).sum ≤ 8)
    (hS0 : S[a0]? = some (.inl (0, n0))) (hS1 : S[a]? = some (.inl (0, n1))) (hb1 : n1 < 2 ^ 31) (h1 : ¬ sp < 0) (h2 : ¬ dp < 0) (h3 : ¬ n < 0) (h4 : sp.toNatClampNeg + n.toNatClampNeg ≤ n0) (h5 : dp.toNatClampNeg + n.toNatClampNeg ≤ n1) (hq : pc + 3 = q)
    (kk : mhV l K M kc ks Φ q lo st S F (mhCp I a0 sp.toNatClampNeg a dp.toNatClampNeg n.toNatClampNeg) J P) : mhV l K M kc ks Φ pc lo (.int n :: .int dp :: .ref a :: .int sp :: .ref a0 :: st) S F I J P := by
  intro p e s m args below meth c Q MC MS hF g1 g2 hR H locs cells slots ls hrp hS' hl hc hs
  subst hq
  obtain ⟨-, k0, hk0, cm0, hkk0⟩ := (hF.2.2.2.2.2.1.1.2 0 _ rfl).1 n0 (fun j => .int (if j < n0 then I a0 (nI j) else 0))
  obtain ⟨-, k1, hk1, cm1, hkk1⟩ := (hF.2.2.2.2.2.1.1.2 0 _ rfl).1 n1 (fun j => .int (if j < n1 then I a (nI j) else 0))
  have hc0 : H[K.2.2.1 + a0]? = some (vp_cell (K.2.1 0) (n0, .inl fun j => if j < n0 then I a0 (nI j) else 0)) := hrp.2 a0 _ (mhW_get hS0)
  have hc1 : H[K.2.2.1 + a]? = some (vp_cell (K.2.1 0) (n1, .inl fun j => if j < n1 then I a (nI j) else 0)) := hrp.2 a _ (mhW_get hS1)
  have hst2 := mh_restTr (K := K) hst
  intro T hT X
  obtain ⟨vm', X', step⟩ := X.arraycopy hF.1 hF.2.2.2.1 (hF.2.2.2.2.1 _ hlk) (hF.2.2.2.2.1 _ hnat) (hF.2.2.2.2.1 _ hsta) (hF.2.2.2.2.1 _ hini) (src := K.2.2.1 + a0) (dst := K.2.2.1 + a) (cs := vp_cell (K.2.1 0) (n0, .inl fun j => if j < n0 then I a0 (nI j) else 0)) (cd := vp_cell (K.2.1 0) (n1, .inl fun j => if j < n1 then I a (nI j) else 0)) (srcPos := sp) (destPos := dp) (n := n) (by rw [hT]; exact hc0) (by rw [hT]; exact hc1)
    (fun _ h => by cases h) (fun _ h => by cases h) (fun h => by cases h) (fun h => by cases h) hk0 hk1 hkk0 hkk1 (by simp [refKind]) h1 h2 h3
    (by rw [mh_nn h1, mh_nn h3]; show ¬ _ > ((arrV (K.2.1 0) n0 (fun j => .int (if j < n0 then I a0 (nI j) else 0))).slots.size : Int); rw [arrV_size]; omega)
    (by rw [mh_nn h2, mh_nn h3]; show ¬ _ > ((arrV (K.2.1 0) n1 (fun j => .int (if j < n1 then I a (nI j) else 0))).slots.size : Int); rw [arrV_size]; omega)
    (fun vm₁ _ i hi => by
      have e : (vp_cell (K.2.1 0) (n0, .inl fun j => if j < n0 then I a0 (nI j) else 0)).slots.getD (sp.toNatClampNeg + i) .null = .int (if sp.toNatClampNeg + i < n0 then I a0 (nI (sp.toNatClampNeg + i)) else 0) := by
        show (arrV (K.2.1 0) n0 (fun j => .int (if j < n0 then I a0 (nI j) else 0))).slots.getD _ _ = _
        rw [Array.getD_eq_getD_getElem?, arrV_read _ _ (by omega)]
        rfl
      refine ⟨?_, ?_⟩
      · rw [e]
        rfl
      · rw [e]
        exact trivial)
    (g := F0 m pc ls (List.map (mhTr K) (.int n :: .int dp :: .ref a :: .int sp :: .ref a0 :: st))) rfl (by rw [hF.2.2.1]; exact hl.1) (rest := st.map (mhTr K)) rfl (by rw [hF.2.1]; exact hd) hfr (by show 2 * 0 + _ + _ ≤ _; omega)
  have e1 : copied (vp_cell (K.2.1 0) (n0, .inl fun j => if j < n0 then I a0 (nI j) else 0)) (vp_cell (K.2.1 0) (n1, .inl fun j => if j < n1 then I a (nI j) else 0)) sp dp n = vp_cell (K.2.1 0) (n1, .inl (va_cpy (fun j => if j < n0 then I a0 (nI j) else 0) (fun j => if j < n1 then I a (nI j) else 0) sp.toNatClampNeg dp.toNatClampNeg n.toNatClampNeg)) := va_copied (fun z => .int z) (K.2.1 0) (K.2.1 0) (fun j => if j < n0 then I a0 (nI j) else 0) (fun j => if j < n1 then I a (nI j) else 0) h4
  rw [e1] at X' step
  have hlh : K.2.2.1 + a < H.size := (Array.getElem?_eq_some_iff.mp hc1).1
  have hlt := (List.getElem?_eq_some_iff.mp hS1).1
  generalize hcell : vp_cell (K.2.1 0) (n1, .inl (va_cpy (fun j => if j < n0 then I a0 (nI j) else 0) (fun j => if j < n1 then I a (nI j) else 0) sp.toNatClampNeg dp.toNatClampNeg n.toNatClampNeg)) = cell at X' step
  have hheap : ((T.setVm vm').setCell (K.2.2.1 + a) cell).heap = H.setIfInBounds (K.2.2.1 + a) cell := by rw [← hT]; rfl
  have oq : ∀ q : Nat, q ≠ K.2.2.1 + a → (H.setIfInBounds (K.2.2.1 + a) cell)[q]? = H[q]? := fun q hq => by simp [Array.getElem?_setIfInBounds, Ne.symm hq]
  have z : (H.setIfInBounds (K.2.2.1 + a) cell).size = H.size := by simp
  have hfun : ∀ j : Nat, va_cpy (fun j => if j < n0 then I a0 (nI j) else 0) (fun j => if j < n1 then I a (nI j) else 0) sp.toNatClampNeg dp.toNatClampNeg n.toNatClampNeg j = if j < n1 then mhCp I a0 sp.toNatClampNeg a dp.toNatClampNeg n.toNatClampNeg a (nI j) else 0 := by
    intro j
    by_cases hj : j < n1
    · have hj2 : j < 2 ^ 31 := by omega
      simp only [va_cpy, mhCp, hj, if_true, nI_clamp hj2, nI_pos hj2, not_false_eq_true, true_and]
      by_cases hr : dp.toNatClampNeg ≤ j ∧ j < dp.toNatClampNeg + n.toNatClampNeg
      · rw [if_pos hr, if_pos hr, if_pos (by omega)]
      · rw [if_neg hr, if_neg hr]
    · have hr : ¬ (dp.toNatClampNeg ≤ j ∧ j < dp.toNatClampNeg + n.toNatClampNeg) := by omega
      simp only [va_cpy, hj, if_false, hr]
  have hrep : mhRep K S F (mhCp I a0 sp.toNatClampNeg a dp.toNatClampNeg n.toNatClampNeg) J P (H.setIfInBounds (K.2.2.1 + a) cell) := by
    refine mhRep_put hrp hlt (mh_same hS1) z oq ?_ (fun b sh hb _ => mhCell_I fun j => if_neg fun h => hb h.1)
    show (H.setIfInBounds (K.2.2.1 + a) cell)[_]? = some (vp_cell (K.2.1 0) (n1, .inl fun j => if j < n1 then mhCp I a0 sp.toNatClampNeg a dp.toNatClampNeg n.toNatClampNeg a (nI j) else 0))
    rw [← funext hfun, hcell]
    simp [Array.getElem?_setIfInBounds, hlh]
  have hSn : ∀ L : List Loc, (∀ q ∈ L, K.2.2.1 ≤ q.base) → va_S (fun q => K.2.2.1 ≤ q) s.heap (H.setIfInBounds (K.2.2.1 + a) cell) (locs ++ L) := by
    intro L hL
    refine ⟨by simp; exact hS'.1, fun q g1 g2 => ?_, fun q hq => ?_⟩
    · rw [oq q (fun e => g2 (by rw [e]; exact Nat.le_add_right _ _))]
      exact hS'.2.1 q g1 g2
    · rcases List.mem_append.mp hq with h | h
      · exact hS'.2.2 q h
      · exact hL q h
  obtain ⟨t, a1, b1⟩ := kk p e s m args below meth c Q MC MS hF g1 g2 hR _ _ cells slots ls hrep (hSn _ (fun q hq => by obtain ⟨w, -, hw⟩ := List.mem_map.mp hq; rw [← hw]; exact Nat.le_add_right _ _)) hl hc hs _ hheap X'
  exact ⟨t, step t a1, b1⟩
end MHN
