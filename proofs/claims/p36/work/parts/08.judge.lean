/-! THE JUDGEMENT over the small heap -/
def mhNest : List (String × Nat × MethodName × String) := [("MirrorHouse", 41, yX4_init, "MirrorHouse"), ("MirrorHouse", 48, yX0_init, "MirrorHouse"), ("MirrorHouse", 53, yX3_init, "MirrorHouse"), ("MirrorHouse$House", 64, yX6_sidesOf, "MirrorHouse"), ("MirrorHouse$House", 82, yX6_within, "MirrorHouse")]
def mhAOs : List String := [RX3, RX1, RX2, RX5]
/-- what the tables say, at any state of the run -/
def mhG (K : mhX) (U : State) : Prop := va_K K.1 vwCl (mhTys K) U ∧ (∀ q ∈ mhNest, va_Nw (.methodLinkNest q.1 q.2.1 q.2.2.1 q.2.2.2) U) ∧ ∀ C ∈ mhAOs, va_AO C U
theorem mhG.warm {K : mhX} {s U : State} (hW : s.WarmedH U.vm) (h : mhG K s) : mhG K U := ⟨va_K.moved hW.alike h.1, fun q hq => va_Nw.warmM hW (h.2.1 q hq), fun C hC => va_AO.moved hW.alike (h.2.2 C hC)⟩
theorem mhG.same {K : mhX} {s U : State} (hv : s.vm = U.vm) (h : mhG K s) : mhG K U := ⟨va_K.moved (hv ▸ Vm.Alike.refl s.vm) h.1, fun q hq => va_Nw.same rfl hv (h.2.1 q hq), fun C hC => va_AO.moved (hv ▸ Vm.Alike.refl s.vm) (h.2.2 C hC)⟩
/-- the script lies where it lay -/
def mhScr (K : mhX) (U : State) : Prop := va_X K.2.2.2.1 K.2.2.2.2.1 K.2.2.2.2.2 U U.heap ∧ K.2.2.2.1 < U.heap.size ∧ K.2.2.2.1 < K.2.2.1
def mhFx (K : mhX) (M : mhM) (p : Program) (s : State) (m : MethodId) (args : Array Value) (meth : Method) (c : Code) : Prop :=
  p.tables.exec = Jvm.exec ∧ c.code = M.2.1 ∧ c.maxLocals = M.2.2.1 ∧ s.vm.findClass M.1.cls = some m.cls ∧ (∀ w ∈ mhT, w.before args s = true) ∧ mhG K s ∧ K.2.2.1 ≤ s.heap.size ∧ (M.1.name = "<init>" → meth.name = "<init>") ∧
  mhScr K s
/-- how a method may end -/
def mhEnd (M : mhM) (v : Option Value) (pc : Nat) : Prop := match v with
  | none => M.2.2.2.1 = none ∧ decode M.2.1 pc = .ok (.return_, 1)
  | some (.int x) => (∃ ty, M.2.2.2.1 = some ty ∧ narrow ty (.int x) = .int x) ∧ decode M.2.1 pc = .ok (.ireturn, 1)
  | some (.long _) => M.2.2.2.1 = some .long ∧ decode M.2.1 pc = .ok (.lreturn, 1)
  | some .null => (∃ n, M.2.2.2.1 = some (.object n)) ∧ decode M.2.1 pc = .ok (.areturn, 1)
  | some (.ref _) => (∃ n, M.2.2.2.1 = some (.object n)) ∧ decode M.2.1 pc = .ok (.areturn, 1)
  | _ => False
def mhRet (K : mhX) (M : mhM) (p : Program) (l : Launch) (e : Env) (s : State) (m : MethodId) (args : Array Value) (below : List Frame) (meth : Method) (c : Code) (Q : State → Prop) (MC MS : Nat) (Φ : mhQ) : Prop :=
  ∀ (v : Option Value) (S : List mhS) (F : mhF) (I : mhI) (J : mhJ) (P : mhP) (H : Heap) (locs : List Loc) (cells slots pc : Nat) (ls : Array Slot), Φ v S F I J P → mhRep K S F I J P H → va_S (fun q => K.2.2.1 ≤ q) s.heap H locs → cells ≤ MC → slots ≤ MS → mhEnd M v pc →
    W p l e M.2.2.2.2 s m args below meth c H locs cells slots Q (F0 m pc ls (v.toList.map (mhTr K)))
/-- from here, at these locals and this stack, the method comes to its end with Φ -/
def mhV (l : Launch) (K : mhX) (M : mhM) (kc ks : Nat) (Φ : mhQ) (pc : Nat) (lo : List (Option Value)) (st : List Value) (S : List mhS) (F : mhF) (I : mhI) (J : mhJ) (P : mhP) : Prop :=
  ∀ (p : Program) (e : Env) (s : State) (m : MethodId) (args : Array Value) (below : List Frame) (meth : Method) (c : Code) (Q : State → Prop) (MC MS : Nat), mhFx K M p s m args meth c → MC ≤ M.2.2.2.2.cells → MS ≤ M.2.2.2.2.slots → mhRet K M p l e s m args below meth c Q MC MS Φ →
    ∀ (H : Heap) (locs : List Loc) (cells slots : Nat) (ls : Array Slot), mhRep K S F I J P H → va_S (fun q => K.2.2.1 ≤ q) s.heap H locs → mhL K M.2.2.1 ls lo → cells + kc ≤ MC → slots + ks ≤ MS →
      W p l e M.2.2.2.2 s m args below meth c H locs cells slots Q (F0 m pc ls (st.map (mhTr K)))
def mhPre (K : mhX) (as : List Value) (S : List mhS) (F : mhF) (I : mhI) (J : mhJ) (P : mhP) : Array Value → State → Prop := fun v U => v = (as.map (mhTr K)).toArray ∧ mhRep K S F I J P U.heap ∧ mhG K U ∧ mhScr K U
def mhPost (K : mhX) (Φ : mhQ) : Array Value → State → Outcome → State → Prop := fun _ st oc t => (∃ (v : Option Value) (S : List mhS) (F : mhF) (I : mhI) (J : mhJ) (P : mhP), oc = .returned (v.map (mhTr K)) ∧ Φ v S F I J P ∧ mhRep K S F I J P t.heap) ∧ va_F (fun q => K.2.2.1 ≤ q) st t
def mhWs (M : mhM) : List Cond := .code M.1 M.2.1 M.2.2.1 M.2.2.2.1 :: mhT
/-- a method, called with these, comes to its end with Φ -/
def mhOk (l : Launch) (K : mhX) (M : mhM) (as : List Value) (S : List mhS) (F : mhF) (I : mhI) (J : mhJ) (P : mhP) (Φ : mhQ) : Prop :=
  Met l M.1 (mhWs M) M.2.2.2.2 (mhPre K as S F I J P) (mhPost K Φ) M.2.2.2.2.cells M.2.2.2.2.slots (fun q => K.2.2.1 ≤ q)
theorem mhFx.hA {K : mhX} {M : mhM} {p : Program} {s : State} {m : MethodId} {args : Array Value} {meth : Method} {c : Code} (h : mhFx K M p s m args meth c) : ∀ q : Nat, s.heap.size ≤ q → K.2.2.1 ≤ q := fun q hq => Nat.le_trans h.2.2.2.2.2.2.1 hq
/-- a method out of its body -/
theorem mhOk.of {l : Launch} {K : mhX} {M : mhM} {as : List Value} {S : List mhS} {F : mhF} {I : mhI} {J : mhJ} {P : mhP} {Φ : mhQ} (hpl : plainName M.1.cls = true) (hnl : M.1.name ≠ "law") (hc : (as.map (fun v => decide ((mhTr K v).category = 1))).all id = true) (hn : as.length ≤ M.2.2.1)
    (h : mhV l K M M.2.2.2.2.cells M.2.2.2.2.slots Φ 0 (as.map some ++ List.replicate (M.2.2.1 - as.length) none) [] S F I J P) : mhOk l K M as S F I J P Φ := by
  refine Met.ofW (cc := M.2.1) (maxL := M.2.2.1) (ret := M.2.2.2.1) hpl rfl ?_
  intro p e s m args below meth c s₁ B hml hv
  obtain ⟨rfl, hrep, hG, hX⟩ := hv
  have hts := atoms_spec (ws := mhWs M) B.pre
  have hlocks := B.notSynchronized
  have hcat : ∀ v ∈ as, (mhTr K v).category = 1 := fun v hv => by
    have := List.all_eq_true.mp hc (decide ((mhTr K v).category = 1)) (List.mem_map.mpr ⟨v, hv, rfl⟩)
    simpa using this
  have hl := mhL_entry (K := K) as hcat hn
  rw [lg_entry_eq]
  refine h p e s m _ below meth c _ M.2.2.2.2.cells M.2.2.2.2.slots ⟨B.exec, B.bytes, hml, findClass_of_methodNamed B.named, fun w hw => hts w (List.mem_cons_of_mem _ hw), hG, by rw [hrep.1]; exact Nat.le_add_right _ _, fun e => (name_of_methodNamed B.named B.method).1.trans e, hX⟩ (Nat.le_refl _) (Nat.le_refl _) ?_ s.heap [] 0 0 _ hrep va_S.rf hl (by omega) (by omega)
  intro v S' F' I' J' P' H locs cells slots pc ls hΦ hr' hS' hcl hsl hend
  have hq : ∀ t : State, t.heap = H → mhPost K Φ (as.map (mhTr K)).toArray s (.returned (v.map (mhTr K))) t := fun t ht => ⟨⟨v, S', F', I', J', P', rfl, hΦ, by rw [ht]; exact hr'⟩, hS'.F ht⟩
  refine W.widen (k := M.2.2.2.2.cells) (n := M.2.2.2.2.slots) hcl hsl ?_
  have hr := B.returns
  match v, hend, hq with
  | none, hend, hq => exact W.vret B.exec B.bytes (hr.trans hend.1) (fun t ht _ => hq t ht) hS'.2.2 hend.2
  | some (.int x), hend, hq =>
    obtain ⟨⟨ty, h1, h2⟩, h3⟩ := hend
    exact W.zret B.exec B.bytes (hr.trans h1) h2 (fun t ht _ => hq t ht) hS'.2.2 h3
  | some (.long x), hend, hq => exact W.lret B.exec B.bytes (hr.trans hend.1) (fun t ht _ => hq t ht) hS'.2.2 hend.2
  | some .null, hend, hq =>
    obtain ⟨⟨n, h1⟩, h3⟩ := hend
    exact W.aret B.exec B.bytes (hr.trans h1) (Or.inl ⟨n, rfl⟩) (Or.inl rfl) (fun t ht _ => hq t ht) hS'.2.2 h3
  | some (.ref a), hend, hq =>
    obtain ⟨⟨n, h1⟩, h3⟩ := hend
    exact W.aret B.exec B.bytes (hr.trans h1) (Or.inl ⟨n, rfl⟩) (Or.inr ⟨_, rfl⟩) (fun t ht _ => hq t ht) hS'.2.2 h3
  | some (.float _), hend, _ => exact hend.elim
  | some (.double _), hend, _ => exact hend.elim
  | some (.retAddr _), hend, _ => exact hend.elim
theorem mhPre_blind {K : mhX} {as : List Value} {S : List mhS} {F : mhF} {I : mhI} {J : mhJ} {P : mhP} : FrameBlind (mhPre K as S F I J P) := fun a U g mk h => ⟨h.1, h.2.1, h.2.2.1.same rfl, va_X.moved (Vm.Alike.refl _) h.2.2.2.1, h.2.2.2.2⟩
