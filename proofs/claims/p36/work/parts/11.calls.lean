/-! calls -/
/-- what the tables say of a method that is called -/
def mhCe (M N : mhM) (n : Nat) : Prop := Cond.initialized N.1.cls ∈ mhT ∧ Cond.code N.1 N.2.1 N.2.2.1 N.2.2.2.1 ∈ mhT ∧ (N.1.cls ≠ "java/lang/invoke/MethodHandle" ∧ N.1.cls ≠ "java/lang/invoke/VarHandle" ∧ (parseMethodDescriptor N.1.desc).map (fun d => d.parameters.length) = some n) ∧ N.2.2.2.2.frames + 1 ≤ M.2.2.2.2.frames ∧ 8 + (N.2.2.1 + 11) + N.2.2.2.2.locals ≤ M.2.2.2.2.locals
/-- the sites: a static call, one of a nest mate, a virtual one, a constructor's, one of a nest mate's -/
def mhSs (M : mhM) (pc : Nat) (N : mhM) (n : Nat) : Prop := mhCe M N n ∧ ∃ ix, decode M.2.1 pc = .ok (.invokestatic ix, 3) ∧ Cond.methodLink M.1.cls ix N.1 ∈ mhT ∧ Cond.static N.1 ∈ mhT
def mhSn (M : mhM) (pc : Nat) (N : mhM) (n : Nat) : Prop := mhCe M N n ∧ ∃ ix host, decode M.2.1 pc = .ok (.invokestatic ix, 3) ∧ (M.1.cls, ix, N.1, host) ∈ mhNest ∧ Cond.static N.1 ∈ mhT
def mhSv (M : mhM) (pc : Nat) (N : mhM) (n ci : Nat) : Prop := mhCe M N n ∧ (∃ r : vw_C, vwCl[ci]? = some r ∧ r.1 = N.1.cls) ∧ ∃ ix, decode M.2.1 pc = .ok (.invokevirtual ix, 3) ∧ Cond.methodLink M.1.cls ix N.1 ∈ mhT ∧ Cond.instanceMethod N.1 ∈ mhT ∧ Cond.selects N.1.cls N.1 N.1 ∈ mhT
def mhSi (M : mhM) (pc : Nat) (N : mhM) (n : Nat) : Prop := mhCe M N n ∧ N.2.2.2.1 = none ∧ N.1.name = "<init>" ∧ ∃ ix, decode M.2.1 pc = .ok (.invokespecial ix, 3) ∧ Cond.methodLink M.1.cls ix N.1 ∈ mhT ∧ Cond.instanceMethod N.1 ∈ mhT
def mhSj (M : mhM) (pc : Nat) (N : mhM) (n : Nat) : Prop := mhCe M N n ∧ N.2.2.2.1 = none ∧ N.1.name = "<init>" ∧ ∃ ix host, decode M.2.1 pc = .ok (.invokespecial ix, 3) ∧ (M.1.cls, ix, N.1, host) ∈ mhNest ∧ Cond.instanceMethod N.1 ∈ mhT
theorem mhTr_cat (K : mhX) (v : Value) : (mhTr K v).category = v.category := by cases v <;> rfl
theorem mh_restTr {K : mhX} {st : List Value} (h : (st.map fun v => v.category).sum ≤ 8) : ((st.map (mhTr K)).map fun v => v.category).sum ≤ 8 := by
  rw [List.map_map]
  have : ((fun v : Value => v.category) ∘ mhTr K) = fun v : Value => v.category := by funext v; exact mhTr_cat K v
  rw [this]; exact h
theorem mhGood {N : mhM} (h : Cond.code N.1 N.2.1 N.2.2.1 N.2.2.2.1 ∈ mhT) : GoodIn mhT (mhWs N) := fun w hw => by
  rcases List.mem_cons.mp hw with e | e
  · rw [e]; exact mhT_good _ h
  · exact mhT_good _ e
section MHK
variable {l : Launch} {K : mhX} {M N : mhM} {kc ks n : Nat} {Φ : mhQ} {pc q : Nat} {lo : List (Option Value)} {st as : List Value} {S : List mhS} {F : mhF} {I : mhI} {J : mhJ} {P : mhP}
variable {p : Program} {e : Env} {s : State} {m : MethodId} {args : Array Value} {below : List Frame} {meth : Method} {c : Code} {Q : State → Prop}
/-- behind a call -/
theorem mh_back {R : Room} {H : Heap} {locs : List Loc} {cells slots mc ms : Nat} {ls : Array Slot} {st0 rest : List Value} {a : Array Value} {Ψ : mhQ} (hF : mhFx K M p s m args meth c)
    (hr : va_Run p l e R s m args below meth c H locs cells slots mc ms (F0 m pc ls st0) rest (mhPost K Ψ a) (fun q => K.2.2.1 ≤ q)) (hS : va_S (fun q => K.2.2.1 ≤ q) s.heap H locs)
    (kk : ∀ (v : Option Value) (S : List mhS) (F : mhF) (I : mhI) (J : mhJ) (P : mhP) (H1 : Heap) (locs1 : List Loc), Ψ v S F I J P → mhRep K S F I J P H1 → va_S (fun q => K.2.2.1 ≤ q) s.heap H1 locs1 → W p l e R s m args below meth c H1 locs1 (cells + mc) (slots + ms) Q (F0 m (pc + 3) ls ((v.map (mhTr K)).toList ++ rest))) : W p l e R s m args below meth c H locs cells slots Q (F0 m pc ls st0) := by
  intro T hT X
  obtain ⟨v, st₀, t, T', L, h0, X', hL, e1, e2, ⟨⟨v', S', F', I', J', P', hv, hΨ, hrep⟩, hz, hk⟩, st⟩ := hr T hT X
  cases hv
  rw [h0] at hz hk
  obtain ⟨t2, a1, b1⟩ := kk v' S' F' I' J' P' T'.heap (locs ++ L) hΨ (by rw [e1]; exact hrep)
    ⟨Nat.le_trans hS.1 (by rw [e1]; exact hz), fun q h1 h2 => by rw [e1, hk q (Nat.lt_of_lt_of_le h1 hS.1) h2]; exact hS.2.1 q h1 h2, fun q hq => by
      rcases List.mem_append.mp hq with h | h
      · exact hS.2.2 q h
      · exact hL q h⟩ T' rfl X'
  exact ⟨t2, st t2 a1, b1⟩
theorem mh_after {MC MS : Nat} (hF : mhFx K M p s m args meth c) (h1 : MC ≤ M.2.2.2.2.cells) (h2 : MS ≤ M.2.2.2.2.slots) (hR : mhRet K M p l e s m args below meth c Q MC MS Φ) {cells slots : Nat} {ls : Array Slot} (hl : mhL K M.2.2.1 ls lo) (hc : cells + kc ≤ MC) (hs : slots + ks ≤ MS) (hk : N.2.2.2.2.cells ≤ kc ∧ N.2.2.2.2.slots ≤ ks)
    (v : Option Value) (S : List mhS) (F : mhF) (I : mhI) (J : mhJ) (P : mhP) (H1 : Heap) (locs1 : List Loc) (hV : mhV l K M (kc - N.2.2.2.2.cells) (ks - N.2.2.2.2.slots) Φ (pc + 3) lo (v.toList ++ st) S F I J P) (hrep : mhRep K S F I J P H1) (hS : va_S (fun q => K.2.2.1 ≤ q) s.heap H1 locs1) :
    W p l e M.2.2.2.2 s m args below meth c H1 locs1 (cells + N.2.2.2.2.cells) (slots + N.2.2.2.2.slots) Q (F0 m (pc + 3) ls ((v.map (mhTr K)).toList ++ st.map (mhTr K))) := by
  have h := hV p e s m args below meth c Q MC MS hF h1 h2 hR H1 locs1 (cells + N.2.2.2.2.cells) (slots + N.2.2.2.2.slots) ls hrep hS hl (by omega) (by omega)
  rw [List.map_append] at h
  cases v <;> exact h
theorem mh_pre {H : Heap} {locs : List Loc} (hF : mhFx K M p s m args meth c) (hrp : mhRep K S F I J P H) (hS : va_S (fun q => K.2.2.1 ≤ q) s.heap H locs) : PreS s H (mhPre K as S F I J P) (as.map (mhTr K)) := ⟨mhPre_blind, fun U hU hW => ⟨rfl, by rw [hU]; exact hrp, hF.2.2.2.2.2.1.warm hW, by
  obtain ⟨q1, q2, q3⟩ := hF.2.2.2.2.2.2.2.2
  unfold mhScr
  rw [hU]
  exact ⟨va_X.moved hW.alike (va_X.kept q1 (hS.2.1 _ q2 (Nat.not_le.mpr q3))), Nat.lt_of_lt_of_le q2 hS.1, q3⟩⟩⟩
theorem mh_callB {ix : Nat} (hF : mhFx K M p s m args meth c) (h : mhCe M N n) (hl : Cond.methodLink M.1.cls ix N.1 ∈ mhT) : CallB M.2.2.2.2 s args M.1.cls ix N.1 N.2.1 N.2.2.1 N.2.2.2.1 (mhWs N) N.2.2.2.2 N.2.2.2.2.cells N.2.2.2.2.slots n :=
  callB_of n hF.2.2.2.2.1 (mhGood h.2.1) rfl rfl rfl (hF.2.2.2.2.1 _ h.1) (hF.2.2.2.2.1 _ hl) h.2.2.1 h.2.2.2
theorem mh_callS (h : mhSs M pc N n) (hn : as.length = n) (hq : pc + 3 = q) (hst : (st.map fun v => v.category).sum ≤ 8) (hk : N.2.2.2.2.cells ≤ kc ∧ N.2.2.2.2.slots ≤ ks)
    (hok : mhOk l K N as S F I J P (fun v S F I J P => mhV l K M (kc - N.2.2.2.2.cells) (ks - N.2.2.2.2.slots) Φ q lo (v.toList ++ st) S F I J P)) : mhV l K M kc ks Φ pc lo (as.reverse ++ st) S F I J P := by
  intro p e s m args below meth c Q MC MS hF h1 h2 hR H locs cells slots ls hrp hS hl hc hs
  subst hq
  obtain ⟨hce, ix, hd, hlk, hsta⟩ := h
  refine mh_back hF (va_runS (As := as.map (mhTr K)) (rest := st.map (mhTr K)) ⟨hF.1, hF.2.1, hF.2.2.1, hF.2.2.2.1, hF.2.2.2.2.1⟩ hok ⟨mh_callB hF hce hlk, hF.2.2.2.2.1 _ hsta⟩ (mh_pre hF hrp hS) rfl (by rw [List.length_map]; exact hn) hl.1 (by show List.map (mhTr K) (as.reverse ++ st) = _; simp) (lv_room (mh_restTr hst)) hd ⟨by omega, by omega⟩) hS ?_
  exact fun v S F I J P H1 locs1 hV hrep hS1 => mh_after hF h1 h2 hR hl hc hs hk v S F I J P H1 locs1 hV hrep hS1
theorem mh_callN (h : mhSn M pc N n) (hn : as.length = n) (hq : pc + 3 = q) (hst : (st.map fun v => v.category).sum ≤ 8) (hk : N.2.2.2.2.cells ≤ kc ∧ N.2.2.2.2.slots ≤ ks)
    (hok : mhOk l K N as S F I J P (fun v S F I J P => mhV l K M (kc - N.2.2.2.2.cells) (ks - N.2.2.2.2.slots) Φ q lo (v.toList ++ st) S F I J P)) : mhV l K M kc ks Φ pc lo (as.reverse ++ st) S F I J P := by
  intro p e s m args below meth c Q MC MS hF h1 h2 hR H locs cells slots ls hrp hS hl hc hs
  subst hq
  obtain ⟨hce, ix, host, hd, hlk, hsta⟩ := h
  refine mh_back hF (va_runSN (As := as.map (mhTr K)) (rest := st.map (mhTr K)) ⟨hF.1, hF.2.1, hF.2.2.1, hF.2.2.2.1, hF.2.2.2.2.1⟩ hok ⟨va_cnB n hF.2.2.2.2.1 (mhGood hce.2.1) rfl rfl rfl (hF.2.2.2.2.2.1.2.1 _ hlk) (hF.2.2.2.2.1 _ hce.1) hce.2.2.1 hce.2.2.2, hF.2.2.2.2.1 _ hsta, trivial⟩ (mh_pre hF hrp hS) rfl (by rw [List.length_map]; exact hn) hl.1 (by show List.map (mhTr K) (as.reverse ++ st) = _; simp) (lv_room (mh_restTr hst)) hd ⟨by omega, by omega⟩) hS ?_
  exact fun v S F I J P H1 locs1 hV hrep hS1 => mh_after hF h1 h2 hR hl hc hs hk v S F I J P H1 locs1 hV hrep hS1
theorem mh_callV {a ci : Nat} {rs : List (Option (Option Nat))} (h : mhSv M pc N n ci) (hn : as.length = n) (hS0 : S[a]? = some (.inr (ci, rs))) (hq : pc + 3 = q) (hst : (st.map fun v => v.category).sum ≤ 8) (hk : N.2.2.2.2.cells ≤ kc ∧ N.2.2.2.2.slots ≤ ks)
    (hok : mhOk l K N (.ref a :: as) S F I J P (fun v S F I J P => mhV l K M (kc - N.2.2.2.2.cells) (ks - N.2.2.2.2.slots) Φ q lo (v.toList ++ st) S F I J P)) : mhV l K M kc ks Φ pc lo (as.reverse ++ .ref a :: st) S F I J P := by
  intro p e s m args below meth c Q MC MS hF h1 h2 hR H locs cells slots ls hrp hS hl hc hs
  subst hq
  obtain ⟨hce, ⟨r, hr1, hr2⟩, ix, hd, hlk, hin, hse⟩ := h
  have hrecv := va_recv hF.2.2.2.2.2.1.1 hrp.2 hr1 (mhW_get hS0)
  rw [hr2] at hrecv
  refine mh_back hF (va_runV (C := N.1.cls) (b := K.2.2.1 + a) (As := as.map (mhTr K)) (rest := st.map (mhTr K)) ⟨hF.1, hF.2.1, hF.2.2.1, hF.2.2.2.1, hF.2.2.2.2.1⟩ hok ⟨mh_callB hF hce hlk, hF.2.2.2.2.1 _ hin, hF.2.2.2.2.1 _ hse⟩ ⟨mhPre_blind, hrecv, (mh_pre (as := .ref a :: as) hF hrp hS).2⟩ rfl (by rw [List.length_map]; exact hn) hl.1 (by show List.map (mhTr K) (as.reverse ++ .ref a :: st) = _; simp [mhTr]) (lv_room (mh_restTr hst)) hd ⟨by omega, by omega⟩) hS ?_
  exact fun v S F I J P H1 locs1 hV hrep hS1 => mh_after hF h1 h2 hR hl hc hs hk v S F I J P H1 locs1 hV hrep hS1
theorem mh_callI {a : Nat} (h : mhSi M pc N n) (hn : as.length = n) (hq : pc + 3 = q) (hst : (st.map fun v => v.category).sum ≤ 8) (hk : N.2.2.2.2.cells ≤ kc ∧ N.2.2.2.2.slots ≤ ks)
    (hok : mhOk l K N (.ref a :: as) S F I J P (fun v S F I J P => mhV l K M (kc - N.2.2.2.2.cells) (ks - N.2.2.2.2.slots) Φ q lo (v.toList ++ st) S F I J P)) : mhV l K M kc ks Φ pc lo (as.reverse ++ .ref a :: st) S F I J P := by
  intro p e s m args below meth c Q MC MS hF h1 h2 hR H locs cells slots ls hrp hS hl hc hs
  subst hq
  obtain ⟨hce, hnone, hini, ix, hd, hlk, hin⟩ := h
  have hcb := mh_callB hF hce hlk
  rw [hnone] at hcb
  refine mh_back hF (va_runI (b := K.2.2.1 + a) (As := as.map (mhTr K)) (rest := st.map (mhTr K)) ⟨hF.1, hF.2.1, hF.2.2.1, hF.2.2.2.1, hF.2.2.2.2.1⟩ hok ⟨hcb, hini, hF.2.2.2.2.1 _ hin⟩ (mh_pre (as := .ref a :: as) hF hrp hS) rfl (by rw [List.length_map]; exact hn) hl.1 (by show List.map (mhTr K) (as.reverse ++ .ref a :: st) = _; simp [mhTr]) (lv_room (mh_restTr hst)) hd ⟨by omega, by omega⟩) hS ?_
  exact fun v S F I J P H1 locs1 hV hrep hS1 => mh_after hF h1 h2 hR hl hc hs hk v S F I J P H1 locs1 hV hrep hS1
theorem mh_callJ {a : Nat} (h : mhSj M pc N n) (hn : as.length = n) (hq : pc + 3 = q) (hst : (st.map fun v => v.category).sum ≤ 8) (hk : N.2.2.2.2.cells ≤ kc ∧ N.2.2.2.2.slots ≤ ks)
    (hok : mhOk l K N (.ref a :: as) S F I J P (fun v S F I J P => mhV l K M (kc - N.2.2.2.2.cells) (ks - N.2.2.2.2.slots) Φ q lo (v.toList ++ st) S F I J P)) : mhV l K M kc ks Φ pc lo (as.reverse ++ .ref a :: st) S F I J P := by
  intro p e s m args below meth c Q MC MS hF h1 h2 hR H locs cells slots ls hrp hS hl hc hs
  subst hq
  obtain ⟨hce, hnone, hini, ix, host, hd, hlk, hin⟩ := h
  have hcb : va_CN M.2.2.2.2 s args M.1.cls ix N.1 host N.2.1 N.2.2.1 N.2.2.2.1 (mhWs N) N.2.2.2.2 N.2.2.2.2.cells N.2.2.2.2.slots n := va_cnB n hF.2.2.2.2.1 (mhGood hce.2.1) rfl rfl rfl (hF.2.2.2.2.2.1.2.1 _ hlk) (hF.2.2.2.2.1 _ hce.1) hce.2.2.1 hce.2.2.2
  rw [hnone] at hcb
  refine mh_back hF (va_runIN (b := K.2.2.1 + a) (As := as.map (mhTr K)) (rest := st.map (mhTr K)) ⟨hF.1, hF.2.1, hF.2.2.1, hF.2.2.2.1, hF.2.2.2.2.1⟩ hok ⟨hcb, hini, hF.2.2.2.2.1 _ hin⟩ (mh_pre (as := .ref a :: as) hF hrp hS) rfl (by rw [List.length_map]; exact hn) hl.1 (by show List.map (mhTr K) (as.reverse ++ .ref a :: st) = _; simp [mhTr]) (lv_room (mh_restTr hst)) hd ⟨by omega, by omega⟩) hS ?_
  exact fun v S F I J P H1 locs1 hV hrep hS1 => mh_after hF h1 h2 hR hl hc hs hk v S F I J P H1 locs1 hV hrep hS1
/-- Object's own constructor -/
theorem mh_objInit {ix a : Nat} (hd : decode M.2.1 pc = .ok (.invokespecial ix, 3)) (hlk : Cond.methodLink M.1.cls ix Lib.objectInit ∈ mhT) (hin : Cond.instanceMethod Lib.objectInit ∈ mhT) (hco : Cond.code Lib.objectInit ⟨#[0xb1]⟩ 1 none ∈ mhT) (hfr : 1 ≤ M.2.2.2.2.frames) (hlo : 20 ≤ M.2.2.2.2.locals) (hst : (st.map fun v => v.category).sum ≤ 8) (hq : pc + 3 = q) (kk : mhV l K M kc ks Φ q lo st S F I J P) : mhV l K M kc ks Φ pc lo (.ref a :: st) S F I J P := by
  intro p e s m args below meth c Q MC MS hF h1 h2 hR H locs cells slots ls hrp hS hl hc hs
  subst hq
  refine W.objInit hF.1 hF.2.1 hF.2.2.2.1 (hF.2.2.2.2.1 _ hlk) (hF.2.2.2.2.1 _ hin) (hF.2.2.2.2.1 _ hco) rfl (by rw [hF.2.2.1]; exact hl.1) rfl hd hfr ?_ (kk p e s m args below meth c Q MC MS hF h1 h2 hR H locs cells slots ls hrp hS hl hc hs)
  have := lv_room (m := m) (pc := pc) (ls := ls) (rest := List.map (mhTr K) (.ref a :: st)) (mh_restTr (K := K) hst)
  omega
/-- Math.abs -/
theorem mh_abs {ix : Nat} {x : Int32} (hd : decode M.2.1 pc = .ok (.invokestatic ix, 3)) (hlk : Cond.methodLink M.1.cls ix Lib.Math.abs.name ∈ mhT) (hsta : Cond.static Lib.Math.abs.name ∈ mhT) (hini : Cond.initialized "java/lang/Math" ∈ mhT) (hco : Cond.code Lib.Math.abs.name Lib.Math.abs.code 1 (some .int) ∈ mhT) (hfr : 1 ≤ M.2.2.2.2.frames) (hlo : 21 ≤ M.2.2.2.2.locals) (hst : (st.map fun v => v.category).sum ≤ 8) (hq : pc + 3 = q) (kk : mhV l K M kc ks Φ q lo (.int (if 0 ≤ x then x else 0 - x) :: st) S F I J P) : mhV l K M kc ks Φ pc lo (.int x :: st) S F I J P := by
  intro p e s m args below meth c Q MC MS hF h1 h2 hR H locs cells slots ls hrp hS hl hc hs
  subst hq
  refine va_mabs hF.1 hF.2.1 (by rw [hF.2.2.1]; exact hl.1.symm) hF.2.2.2.1 (hF.2.2.2.2.1 _ hlk) (hF.2.2.2.2.1 _ hsta) (hF.2.2.2.2.1 _ hini) (hF.2.2.2.2.1 _ hco) hfr ?_ (by omega) (by omega) hd (kk p e s m args below meth c Q MC MS hF h1 h2 hR H locs cells slots ls hrp hS hl hc hs)
  have := mh_restTr (K := K) hst
  omega
end MHK
