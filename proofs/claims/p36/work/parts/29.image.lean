/-! images -/
def sgAh (p t : Nat → Nat) : Prop := ∃ d, d < 3 ∧ t d < p d
theorem sgAh_iff {p t : Nat → Nat} : sgAh p t ↔ (t 0 < p 0 ∨ t 1 < p 1 ∨ t 2 < p 2) := by
  constructor
  · rintro ⟨d, hd, h⟩
    rcases (show d = 0 ∨ d = 1 ∨ d = 2 by omega) with rfl | rfl | rfl
    · exact Or.inl h
    · exact Or.inr (Or.inl h)
    · exact Or.inr (Or.inr h)
  · rintro (h | h | h)
    · exact ⟨0, by decide, h⟩
    · exact ⟨1, by decide, h⟩
    · exact ⟨2, by decide, h⟩
noncomputable def sgIt (w h : Nat) (kd : Nat → Int32) (p : Nat → Nat) : Nat → mhSg → mhSg
  | 0, g => g
  | n + 1, g => if g.2.2.2.2.2.2 = 2 ∧ (g.1 0 < p 0 ∨ g.1 1 < p 1 ∨ g.1 2 < p 2) then sgIt w h kd p n (sgStep w h kd p g) else g
theorem sgIt_s {w h : Nat} {kd : Nat → Int32} {p : Nat → Nat} {n : Nat} {g : mhSg} (h1 : g.2.2.2.2.2.2 = 2) (h2 : sgAh p g.1) : sgIt w h kd p (n + 1) g = sgIt w h kd p n (sgStep w h kd p g) := by
  show (if _ then _ else _) = _
  rw [if_pos ⟨h1, sgAh_iff.mp h2⟩]
theorem sgIt_e {w h : Nat} {kd : Nat → Int32} {p : Nat → Nat} {n : Nat} {g : mhSg} (h1 : ¬ (g.2.2.2.2.2.2 = 2 ∧ sgAh p g.1)) : sgIt w h kd p n g = g := by
  cases n with
  | zero => rfl
  | succ n =>
    show (if _ then _ else _) = _
    rw [if_neg (fun e => h1 ⟨e.1, sgAh_iff.mpr e.2⟩)]
def sgMu (p t : Nat → Nat) : Nat := (p 0 - t 0 + 2) / 3 + (p 1 - t 1 + 2) / 3 + (p 2 - t 2 + 2) / 3
theorem sgMu_pos {p t : Nat → Nat} (ha : sgAh p t) : 1 ≤ sgMu p t := by
  rw [sgAh_iff] at ha
  unfold sgMu
  omega
theorem sgMu_step {w h : Nat} {kd : Nat → Int32} {p : Nat → Nat} {g : mhSg} (ha : sgAh p g.1) (he : (sgStep w h kd p g).2.2.2.2.2.2 = 2) : sgMu p (sgStep w h kd p g).1 + 1 ≤ sgMu p g.1 := by
  obtain ⟨x, hx, hax⟩ := ha
  cases hn : sgNw g.1 p with
  | none =>
    unfold sgStep at he
    rw [hn] at he
    exact absurd he (show ¬ (0 : Int32) = 2 by decide)
  | some d =>
    have hd := sgNw_some hn
    have hl : g.1 d < p d := by
      unfold sgNw at hn
      split at hn
      · cases hn
      · exact nwF_ahead hn hx (by omega) hax
    have e1 : (sgStep w h kd p g).1 = sgUp g.1 d := by
      unfold sgStep
      rw [hn]
      dsimp only
      split
      · rfl
      · split <;> rfl
    rw [e1]
    unfold sgMu sgUp
    rcases (show d = 0 ∨ d = 1 ∨ d = 2 by omega) with rfl | rfl | rfl
    · simp (decide := true) only [if_true, if_false]; omega
    · simp (decide := true) only [if_true, if_false]; omega
    · simp (decide := true) only [if_true, if_false]; omega
def sgO (x : Int32) : Int32 := if x - x / 3 * 3 < 0 then x - x / 3 * 3 + 3 else x - x / 3 * 3
noncomputable def sgIm (w h : Nat) (kd : Nat → Int32) (r : Nat) (p q : Int32) : Int32 :=
  if sgO (nI (sgMid r) + p) = 0 ∨ ¬ sgO (nI (sgMid r) + p) = sgO (nI (sgMid r) + q) then -9 else
  if (sgIt w h kd (sgPa p q) 200 (sgSt r p q)).2.2.2.2.2.2 = 2 then nI (sgIt w h kd (sgPa p q) 200 (sgSt r p q)).2.2.1 else -9
theorem mh_rg {x : Int32} (h1 : -100 ≤ x) (h2 : x ≤ 100) : ∃ k, k < 201 ∧ x = nI k - 100 := by
  obtain ⟨k, hk, e⟩ := nI_of (show ¬ x + 100 < 0 by grind)
  refine ⟨k, ?_, by rw [← e]; grind⟩
  have : nI k ≤ nI 200 := by rw [← e, show nI 200 = (200 : Int32) from rfl]; grind
  have := (nI_leI hk (by decide)).mp this
  omega
theorem sgO_fl : ∀ k ∈ List.range 201, (0 ≤ (nI k - 100) ^^^ (3 : Int32) → sgO (nI k - 100) = (nI k - 100) - (nI k - 100) / 3 * 3) ∧ (¬ 0 ≤ (nI k - 100) ^^^ (3 : Int32) → (nI k - 100) - (nI k - 100) / 3 * 3 = 0 → sgO (nI k - 100) = (nI k - 100) - (nI k - 100) / 3 * 3) ∧ (¬ 0 ≤ (nI k - 100) ^^^ (3 : Int32) → ¬ (nI k - 100) - (nI k - 100) / 3 * 3 = 0 → sgO (nI k - 100) = (nI k - 100) - (nI k - 100) / 3 * 3 + 3) := by decide +kernel
theorem mh_ah {p : Nat → Nat} {I : mhI} {ta pa fa d : Nat} {t f : Nat → Nat} (hg : (¬ p d = 0 → I ta (nI d) = nI (t d)) ∧ (p d = 0 → ¬ I ta (nI d) < 0) ∧ I pa (nI d) = nI (p d) ∧ I fa (nI d) = nI (f d)) (hp : p d ≤ 120) (ht : t d ≤ 4000) : nI (p d) ≤ I ta (nI d) ↔ ¬ t d < p d := by
  by_cases c : p d = 0
  · rw [c]
    have := hg.2.1 c
    exact ⟨fun _ => by omega, fun _ => Int32.not_lt.mp this⟩
  · rw [hg.1 c, nI_leI (by omega) (by omega)]
    omega
/-- a run of the body is what a contract asks -/
theorem mhOk_end {l : Launch} {p : Program} {e : Env} {s s₁ : State} {m : MethodId} {args : Array Value} {below : List Frame} {meth : Method} {c : Code} {S : Spec} {y : MethodName} {code : ByteArray} {ret : Option FieldType} {maxL mc ms : Nat} {Qc : Array Value → State → Outcome → State → Prop} {free : Addr → Prop}
    (h : W p l e S.room s m args below meth c s.heap [] 0 0 (MQ below Qc args s mc ms free) (entryFrame m args maxL)) (B : BodyLoose p l y S code maxL ret e s m args below meth c s₁) : ∃ s₂ o, Steps p.tables e below (s₁.setTop (entryFrame m args maxL)) s₂ ∧ s₂.status = .running ∧ Ended s₂ below o ∧ (Qc args s o s₂ ∧ ∃ L, FrameEnd s o s₂ L mc ms ∧ ∀ q ∈ L, free q.base) := by
  obtain ⟨t, g1, o, g2, g3, g4⟩ := h s₁ (by rw [B.state]; rfl) (Stand.of_body B)
  exact ⟨t, o, g1, g2, g3, g4⟩
theorem mhOk.ofF {l : Launch} {K : mhX} {M : mhM} {as : List Value} {S : List mhS} {F : mhF} {I : mhI} {J : mhJ} {P : mhP} {Φ : mhQ} (hpl : plainFor M.1 = true) (hnl : M.1.name ≠ "law") (hc : (as.map (fun v => decide ((mhTr K v).category = 1))).all id = true) (hn : as.length ≤ M.2.2.1)
    (h : mhV l K M M.2.2.2.2.cells M.2.2.2.2.slots Φ 0 (as.map some ++ List.replicate (M.2.2.1 - as.length) none) [] S F I J P) : mhOk l K M as S F I J P Φ := by
  unfold mhOk
  refine MetFree.of_bodySF (code := M.2.1) (maxLocals := M.2.2.1) (ret := M.2.2.2.1) hpl (fun args s m hp hm => ?_) ?_
  · obtain ⟨q1, q2, g1, g2, g3, g4, g5, g6, -, -⟩ := Cond.code_spec hm (atoms_spec (ws := mhWs M) hp _ List.mem_cons_self)
    exact ⟨q1, q2, g1, g2, g3, g4, g5, g6⟩
  intro p e s m args below meth c s₁ B hml hv _
  refine mhOk_end ?_ B
  obtain ⟨rfl, hrep, hG, hX⟩ := hv
  have hts := atoms_spec (ws := mhWs M) B.pre
  have hlocks := B.notSynchronized
  have hcat : ∀ v ∈ as, (mhTr K v).category = 1 := fun v hv => by
    have := List.all_eq_true.mp hc (decide ((mhTr K v).category = 1)) (List.mem_map.mpr ⟨v, hv, rfl⟩)
    simpa using this
  have hl := mhL_entry (K := K) as hcat hn
  rw [lg_entry_eq]
  refine h p e s m _ below meth c _ M.2.2.2.2.cells M.2.2.2.2.slots ⟨B.exec, B.bytes, hml, findClass_of_methodNamed B.named, fun w hw => hts w (List.mem_cons_of_mem _ hw), hG, by rw [hrep.1]; exact Nat.le_add_right _ _, fun e => (name_of_methodNamed B.named B.method).1.trans e, hX⟩ (Nat.le_refl _) (Nat.le_refl _) ?_ s.heap [] 0 0 _ hrep va_S.rf hl (by omega) (by omega)
  intro v S' F' I' J' P' H locs cells slots pc ls hΦ hr' hS' hcl hsl hend
  have hq : ∀ t : State, t.heap = H → mhPost K Φ (as.map (mhTr K)).toArray s (.returned (v.map (mhTr K))) t := fun t ht => ⟨⟨v, S', F', I', J', P', rfl, hΦ, by rw [ht]; exact hr'⟩, hS'.F ht⟩
  refine W.widen (k := M.2.2.2.2.cells) (n := M.2.2.2.2.slots) hcl hsl ?_
  have hr := B.returns
  match v, hend, hq with
  | none, hend, hq => exact W.vret B.exec B.bytes (hr.trans hend.1) (fun t ht _ => hq t ht) hS'.2.2 hend.2
  | some (.int x), hend, hq =>
    obtain ⟨⟨ty, h1, h2⟩, h3⟩ := hend
    exact W.zret B.exec B.bytes (hr.trans h1) h2 (fun t ht _ => hq t ht) hS'.2.2 h3
  | some (.long x), hend, hq => exact W.lret B.exec B.bytes (hr.trans hend.1) (fun t ht _ => hq t ht) hS'.2.2 hend.2
  | some .null, hend, hq =>
    obtain ⟨⟨n, h1⟩, h3⟩ := hend
    exact W.aret B.exec B.bytes (hr.trans h1) (Or.inl ⟨n, rfl⟩) (Or.inl rfl) (fun t ht _ => hq t ht) hS'.2.2 h3
  | some (.ref a), hend, hq =>
    obtain ⟨⟨n, h1⟩, h3⟩ := hend
    exact W.aret B.exec B.bytes (hr.trans h1) (Or.inl ⟨n, rfl⟩) (Or.inr ⟨_, rfl⟩) (fun t ht _ => hq t ht) hS'.2.2 h3
  | some (.float _), hend, _ => exact hend.elim
  | some (.double _), hend, _ => exact hend.elim
  | some (.retAddr _), hend, _ => exact hend.elim
set_option maxHeartbeats 4000000 in
set_option maxRecDepth 100000 in
theorem sp_J9_floorMod {l : Launch} {K : mhX} {Φ : mhQ} {S : List mhS} {F : mhF} {I : mhI} {J : mhJ} {P : mhP} {x : Int32} (h1 : -100 ≤ x) (h2 : x ≤ 100) (hΦ : Φ (some (.int (sgO x))) S F I J P) : mhOk l K mJ9_floorMod_7cf53 [.int x, .int 3] S F I J P Φ := by
  obtain ⟨k, hk, rfl⟩ := mh_rg h1 h2
  obtain ⟨f1, f2, f3⟩ := sgO_fl k (List.mem_range.mpr hk)
  refine mhOk.ofF (by decide +kernel) (by decide) rfl (Nat.le_of_ble_eq_true rfl) ?_
  refine mh_iload_0 dJ9_floorMod_7cf53_0 (q := 1) rfl ?_
  refine mh_iload_1 dJ9_floorMod_7cf53_1 (q := 2) rfl ?_
  refine mh_irem dJ9_floorMod_7cf53_2 (q := 3) rfl (by decide) ?_
  refine mh_istore_2 dJ9_floorMod_7cf53_3 (q := 4) rfl ?_
  refine mh_iload_0 dJ9_floorMod_7cf53_4 (q := 5) rfl ?_
  refine mh_iload_1 dJ9_floorMod_7cf53_5 (q := 6) rfl ?_
  refine mh_ixor dJ9_floorMod_7cf53_6 (q := 7) rfl ?_
  refine mh_if_ge dJ9_floorMod_7cf53_7 (tgt := 18) (q := 10) rfl rfl (fun c7 => ?_) (fun c7 => ?_)
  · skip
    rw [f1 c7] at hΦ
    refine mh_iload_2 dJ9_floorMod_7cf53_18 (q := 19) rfl ?_
    refine mh_ireturn dJ9_floorMod_7cf53_19 rfl rfl ?_
    exact hΦ
  · skip
    refine mh_iload_2 dJ9_floorMod_7cf53_10 (q := 11) rfl ?_
    refine mh_if_eq dJ9_floorMod_7cf53_11 (tgt := 18) (q := 14) rfl rfl (fun c11 => ?_) (fun c11 => ?_)
    · skip
      rw [f2 c7 c11] at hΦ
      refine mh_iload_2 dJ9_floorMod_7cf53_18 (q := 19) rfl ?_
      refine mh_ireturn dJ9_floorMod_7cf53_19 rfl rfl ?_
      exact hΦ
    · skip
      rw [f3 c7 c11] at hΦ
      refine mh_iload_2 dJ9_floorMod_7cf53_14 (q := 15) rfl ?_
      refine mh_iload_1 dJ9_floorMod_7cf53_15 (q := 16) rfl ?_
      refine mh_iadd dJ9_floorMod_7cf53_16 (q := 17) rfl ?_
      refine mh_ireturn dJ9_floorMod_7cf53_17 rfl rfl ?_
      exact hΦ
set_option maxHeartbeats 4000000 in
set_option maxRecDepth 100000 in
theorem lp_X4_crossesMore {l : Launch} {K : mhX} {kc ks : Nat} {Φ : mhQ} {S : List mhS} {F : mhF} {I : mhI} {J : mhJ} {P : mhP} (h4 : mhKX4 S) {p : Nat → Nat} {w h : Nat} {g : mhSg} (hg : sgC p F I g) (ok : sgOk w h p g) (ht : sgAh p g.1 → Φ (some (.int 1)) S F I J P) (hf : ¬ sgAh p g.1 → Φ (some (.int 0)) S F I J P) : ∀ (m d : Nat), d + m = 3 → (∀ x, x < d → ¬ g.1 x < p x) → mhV l K mX4_crossesMore kc ks Φ 2 [some (.ref 6), some (.int (nI d))] [] S F I J P := by
  intro m
  induction m with
  | zero =>
    intro d hd hb
    obtain rfl : d = 3 := by omega
    refine mh_iload_1 dX4_crossesMore_2 (q := 3) rfl ?_
    refine mh_iconst_3 dX4_crossesMore_3 (q := 4) rfl ?_
    refine mh_icmp_ge dX4_crossesMore_4 (tgt := 30) (q := 7) rfl rfl (fun _ => ?_) (fun hh => absurd (show (3 : Int32) ≤ nI 3 by decide) hh)
    refine mh_iconst_0 dX4_crossesMore_30 (q := 31) rfl ?_
    refine mh_ireturn dX4_crossesMore_31 rfl rfl ?_
    exact hf (fun ⟨x, hx, e⟩ => hb x hx e)
  | succ m ih =>
    intro d hd hb
    have hg1 := hg.1 d (by omega)
    have k1 := ok.1 d (by omega)
    have k2 := ok.2.2.1
    have hah := mh_ah hg1 (by omega) (by omega)
    have h9 := ih (d + 1) (by omega)
    refine mh_iload_1 dX4_crossesMore_2 (q := 3) rfl ?_
    refine mh_iconst_3 dX4_crossesMore_3 (q := 4) rfl ?_
    refine mh_icmp_ge dX4_crossesMore_4 (tgt := 30) (q := 7) rfl rfl (fun hh => absurd hh (show ¬ (3 : Int32) ≤ nI d from nI_ge (b := 3) (by omega) (by decide))) (fun _ => ?_)
    refine mh_aload_0 dX4_crossesMore_7 (q := 8) rfl ?_
    refine mh_getR fl_X4_9 dX4_crossesMore_8 (q := 11) rfl (shX4_0 h4) rfl ?_
    refine mh_iload_1 dX4_crossesMore_11 (q := 12) rfl ?_
    refine mh_iald dX4_crossesMore_12 (q := 13) rfl (shX4_1 h4) (vp_in_nI (by omega) (by decide)) ?_
    refine mh_aload_0 dX4_crossesMore_13 (q := 14) rfl ?_
    refine mh_getR fl_X4_15 dX4_crossesMore_14 (q := 17) rfl (shX4_0 h4) rfl ?_
    refine mh_iload_1 dX4_crossesMore_17 (q := 18) rfl ?_
    refine mh_iald dX4_crossesMore_18 (q := 19) rfl (shX4_2 h4) (vp_in_nI (by omega) (by decide)) ?_
    rw [hg1.2.2.1]
    refine mh_icmp_ge dX4_crossesMore_19 (tgt := 24) (q := 22) rfl rfl (fun c19 => ?_) (fun c19 => ?_)
    · skip
      refine mh_iinc_1 (v := 1) dX4_crossesMore_24 (q := 27) rfl (by decide) ?_
      refine mh_goto dX4_crossesMore_27 (tgt := 2) rfl ?_
      rw [nI_1]
      refine h9 (fun x hx => ?_)
      rcases Nat.lt_or_ge x d with z | z
      · exact hb x z
      · obtain rfl : x = d := by omega
        exact hah.mp c19
    · skip
      refine mh_iconst_1 dX4_crossesMore_22 (q := 23) rfl ?_
      refine mh_ireturn dX4_crossesMore_23 rfl rfl ?_
      exact ht ⟨d, by omega, Decidable.not_not.mp (fun e => c19 (hah.mpr e))⟩
set_option maxHeartbeats 4000000 in
set_option maxRecDepth 100000 in
theorem sp_X4_crossesMore {l : Launch} {K : mhX} {Φ : mhQ} {S : List mhS} {F : mhF} {I : mhI} {J : mhJ} {P : mhP} (h4 : mhKX4 S) {p : Nat → Nat} {w h : Nat} {g : mhSg} (hg : sgC p F I g) (ok : sgOk w h p g) (ht : sgAh p g.1 → Φ (some (.int 1)) S F I J P) (hf : ¬ sgAh p g.1 → Φ (some (.int 0)) S F I J P) : mhOk l K mX4_crossesMore [.ref 6] S F I J P Φ := by
  refine mhOk.of (by decide) (by decide) rfl (Nat.le_of_ble_eq_true rfl) ?_
  refine mh_iconst_0 dX4_crossesMore_0 (q := 1) rfl ?_
  refine mh_istore_1 dX4_crossesMore_1 (q := 2) rfl ?_
  exact lp_X4_crossesMore (kc := mX4_crossesMore.2.2.2.2.cells) (ks := mX4_crossesMore.2.2.2.2.slots) h4 hg ok ht hf 3 0 rfl (fun x hx => absurd hx (Nat.not_lt_zero x))
set_option maxHeartbeats 4000000 in
set_option maxRecDepth 100000 in
theorem lp_X4_imageBy {l : Launch} {K : mhX} {kc ks : Nat} {Φ : mhQ} {S : List mhS} {J : mhJ} {P : mhP} (h4 : mhKX4 S) {p : Nat → Nat} {w h a : Nat} {kd : Nat → Int32} (o2 o3 o4 o5 o6 : Option Value) : ∀ (m k : Nat) (F : mhF) (I : mhI) (g : mhSg), k + m = 200 → (g.2.2.2.2.2.2 = 2 → g.2.2.2.1 = k) → mhHs S F I a w h → mhPn I a w h kd → sgC p F I g → sgOk w h p g → (∀ (F2 : mhF) (I2 : mhI), frC F I F2 I2 → Φ (some (.int (if (sgIt w h kd p m g).2.2.2.2.2.2 = 2 then nI (sgIt w h kd p m g).2.2.1 else -9))) S F2 I2 J P) → mhV l K mX4_imageBy kc ks Φ 51 [some (.ref 6), some (.ref a), o2, o3, o4, o5, o6, some (.int (nI k))] [] S F I J P := by
  intro m
  induction m with
  | zero =>
    intro k F I g hk hc hH hp hg ok hΦ
    rw [show sgIt w h kd p 0 g = g from rfl] at hΦ
    refine mh_iload_7 dX4_imageBy_51 (q := 53) rfl ?_
    refine mh_sipush (v := 200) dX4_imageBy_53 (q := 56) rfl (by decide) ?_
    refine mh_icmp_ge dX4_imageBy_56 (tgt := 85) (q := 59) rfl rfl (fun _ => ?_) (fun hh => absurd (show (200 : Int32) ≤ nI k by rw [show (200 : Int32) = nI 200 from rfl, nI_leI (by omega) (by omega)]; omega) hh)
    refine mh_aload_0 dX4_imageBy_85 (q := 86) rfl ?_
    refine mh_getI fl_X4_25 dX4_imageBy_86 (q := 89) rfl (shX4_0 h4) rfl ?_
    rw [hg.2.2.2.2.2]
    refine mh_iconst_2 dX4_imageBy_89 (q := 90) rfl ?_
    refine mh_icmp_ne dX4_imageBy_90 (tgt := 100) (q := 93) rfl rfl (fun c90 => ?_) (fun c90 => ?_)
    · skip
      refine mh_bipush (v := (-9)) dX4_imageBy_100 (q := 102) rfl (by decide) ?_
      refine mh_ireturn dX4_imageBy_102 rfl rfl ?_
      first
      | (rw [if_neg c90] at hΦ; exact hΦ F I frC.rf)
      | (rw [if_pos c90] at hΦ; exact hΦ F I frC.rf)
    · skip
      replace c90 : g.2.2.2.2.2.2 = 2 := c90
      refine mh_aload_0 dX4_imageBy_93 (q := 94) rfl ?_
      refine mh_getI fl_X4_39 dX4_imageBy_94 (q := 97) rfl (shX4_0 h4) rfl ?_
      rw [hg.2.1]
      refine mh_goto dX4_imageBy_97 (tgt := 102) rfl ?_
      refine mh_ireturn dX4_imageBy_102 rfl rfl ?_
      first
      | (rw [if_neg c90] at hΦ; exact hΦ F I frC.rf)
      | (rw [if_pos c90] at hΦ; exact hΦ F I frC.rf)
  | succ m ih =>
    intro k F I g hk hc hH hp hg ok hΦ
    refine mh_iload_7 dX4_imageBy_51 (q := 53) rfl ?_
    refine mh_sipush (v := 200) dX4_imageBy_53 (q := 56) rfl (by decide) ?_
    refine mh_icmp_ge dX4_imageBy_56 (tgt := 85) (q := 59) rfl rfl (fun hh => absurd hh (show ¬ (200 : Int32) ≤ nI k by rw [show (200 : Int32) = nI 200 from rfl, nI_leI (by omega) (by omega)]; omega)) (fun _ => ?_)
    refine mh_aload_0 dX4_imageBy_59 (q := 60) rfl ?_
    refine mh_getI fl_X4_25 dX4_imageBy_60 (q := 63) rfl (shX4_0 h4) rfl ?_
    rw [hg.2.2.2.2.2]
    refine mh_iconst_2 dX4_imageBy_63 (q := 64) rfl ?_
    refine mh_icmp_ne dX4_imageBy_64 (tgt := 85) (q := 67) rfl rfl (fun c64 => ?_) (fun c64 => ?_)
    · skip
      rw [sgIt_e (fun e => c64 e.1)] at hΦ
      refine mh_aload_0 dX4_imageBy_85 (q := 86) rfl ?_
      refine mh_getI fl_X4_25 dX4_imageBy_86 (q := 89) rfl (shX4_0 h4) rfl ?_
      rw [hg.2.2.2.2.2]
      refine mh_iconst_2 dX4_imageBy_89 (q := 90) rfl ?_
      refine mh_icmp_ne dX4_imageBy_90 (tgt := 100) (q := 93) rfl rfl (fun c90 => ?_) (fun c90 => ?_)
      · skip
        refine mh_bipush (v := (-9)) dX4_imageBy_100 (q := 102) rfl (by decide) ?_
        refine mh_ireturn dX4_imageBy_102 rfl rfl ?_
        first
        | (rw [if_neg c90] at hΦ; exact hΦ F I frC.rf)
        | (rw [if_pos c90] at hΦ; exact hΦ F I frC.rf)
      · skip
        replace c90 : g.2.2.2.2.2.2 = 2 := c90
        refine mh_aload_0 dX4_imageBy_93 (q := 94) rfl ?_
        refine mh_getI fl_X4_39 dX4_imageBy_94 (q := 97) rfl (shX4_0 h4) rfl ?_
        rw [hg.2.1]
        refine mh_goto dX4_imageBy_97 (tgt := 102) rfl ?_
        refine mh_ireturn dX4_imageBy_102 rfl rfl ?_
        first
        | (rw [if_neg c90] at hΦ; exact hΦ F I frC.rf)
        | (rw [if_pos c90] at hΦ; exact hΦ F I frC.rf)
    · skip
      replace c64 : g.2.2.2.2.2.2 = 2 := c64
      have hc1 := hc c64
      refine mh_aload_0 dX4_imageBy_67 (q := 68) rfl ?_
      refine mh_callV0 ca_X4_imageBy_68 (shX4_0 h4) (q := 71) rfl (by simp [Value.category]) ⟨Nat.zero_le _, Nat.zero_le _⟩ ?_
      refine sp_X4_crossesMore h4 hg ok (fun ca => ?_) (fun ca => ?_)
      · skip
        rw [sgIt_s c64 ca] at hΦ
        refine mh_if_eq dX4_imageBy_71 (tgt := 85) (q := 74) rfl rfl (fun hh => False.elim (by revert hh; decide)) (fun _ => ?_)
        refine mh_aload_0 dX4_imageBy_74 (q := 75) rfl ?_
        refine mh_aload_1 dX4_imageBy_75 (q := 76) rfl ?_
        refine mh_callV1 ca_X4_imageBy_76 (shX4_0 h4) (q := 79) rfl (by simp [Value.category]) ⟨Nat.zero_le _, Nat.zero_le _⟩ ?_
        refine sp_X4_goOn h4 hH hp hg ok (by omega) (fun F2 I2 w1 w2 => ?_)
        refine mh_iinc_7 (v := 1) dX4_imageBy_79 (q := 82) rfl (by decide) ?_
        refine mh_goto dX4_imageBy_82 (tgt := 51) rfl ?_
        rw [nI_1]
        have st := sgStep_c (w := w) (h := h) (kd := kd) (p := p) (g := g)
        exact ih (k + 1) F2 I2 _ (by omega) (fun e => by rw [st.2 e, hc1]) (hH.fr w2) (hp.fr w2 hH.2.2.2.2.2.2.2.2.2.2) w1 (sgOk_step hH.2.1 ok (by omega)) (fun F3 I3 u2 => hΦ F3 I3 (w2.tr u2))
      · skip
        rw [sgIt_e (fun e => ca e.2)] at hΦ
        refine mh_if_eq dX4_imageBy_71 (tgt := 85) (q := 74) rfl rfl (fun _ => ?_) (fun hh => False.elim (by revert hh; decide))
        refine mh_aload_0 dX4_imageBy_85 (q := 86) rfl ?_
        refine mh_getI fl_X4_25 dX4_imageBy_86 (q := 89) rfl (shX4_0 h4) rfl ?_
        rw [hg.2.2.2.2.2]
        refine mh_iconst_2 dX4_imageBy_89 (q := 90) rfl ?_
        refine mh_icmp_ne dX4_imageBy_90 (tgt := 100) (q := 93) rfl rfl (fun c90 => ?_) (fun c90 => ?_)
        · skip
          refine mh_bipush (v := (-9)) dX4_imageBy_100 (q := 102) rfl (by decide) ?_
          refine mh_ireturn dX4_imageBy_102 rfl rfl ?_
          first
          | (rw [if_neg c90] at hΦ; exact hΦ F I frC.rf)
          | (rw [if_pos c90] at hΦ; exact hΦ F I frC.rf)
        · skip
          replace c90 : g.2.2.2.2.2.2 = 2 := c90
          refine mh_aload_0 dX4_imageBy_93 (q := 94) rfl ?_
          refine mh_getI fl_X4_39 dX4_imageBy_94 (q := 97) rfl (shX4_0 h4) rfl ?_
          rw [hg.2.1]
          refine mh_goto dX4_imageBy_97 (tgt := 102) rfl ?_
          refine mh_ireturn dX4_imageBy_102 rfl rfl ?_
          first
          | (rw [if_neg c90] at hΦ; exact hΦ F I frC.rf)
          | (rw [if_pos c90] at hΦ; exact hΦ F I frC.rf)
set_option maxHeartbeats 4000000 in
set_option maxRecDepth 100000 in
theorem sp_X4_imageBy {l : Launch} {K : mhX} {Φ : mhQ} {S : List mhS} {F : mhF} {I : mhI} {J : mhJ} {P : mhP} (h4 : mhKX4 S) {w h a r : Nat} {kd : Nat → Int32} {p q : Int32} (hH : mhHs S F I a w h) (hp : mhPn I a w h kd) (hr : r < gRooms w h) (hb : sgBd p q) (hΦ : ∀ (F2 : mhF) (I2 : mhI), frC F I F2 I2 → Φ (some (.int (sgIm w h kd r p q))) S F2 I2 J P) : mhOk l K mX4_imageBy [.ref 6, .ref a, .int (nI r), .int p, .int q] S F I J P Φ := by
  refine mhOk.of (by decide) (by decide) rfl (Nat.le_of_ble_eq_true rfl) ?_
  have hgd := (gBd hH.2.1).1
  have hm2 : sgMid r ≤ 2 := by unfold sgMid; split <;> omega
  have hm1 : (0 : Int32) ≤ nI (sgMid r) := nI_pos' (by omega)
  have hm3 : nI (sgMid r) ≤ nI 2 := (nI_leI (by omega) (by decide)).mpr hm2
  rw [show nI 2 = (2 : Int32) from rfl] at hm3
  obtain ⟨⟨b1, b2⟩, b3, b4⟩ := id hb
  refine mh_iload_2 dX4_imageBy_0 (q := 1) rfl ?_
  refine mh_callS1 ca_X4_imageBy_1 (q := 4) rfl (by simp [Value.category]) ⟨Nat.zero_le _, Nat.zero_le _⟩ ?_
  refine sp_X4_thirdsIn (by omega) ?_
  refine mh_iload_3 dX4_imageBy_4 (q := 5) rfl ?_
  refine mh_iadd dX4_imageBy_5 (q := 6) rfl ?_
  refine mh_iconst_3 dX4_imageBy_6 (q := 7) rfl ?_
  refine mh_callS2 ca_X4_imageBy_7 (q := 10) rfl (by simp [Value.category]) ⟨Nat.zero_le _, Nat.zero_le _⟩ ?_
  refine sp_J9_floorMod (by grind) (by grind) ?_
  refine mh_istore_5 dX4_imageBy_10 (q := 12) rfl ?_
  refine mh_iload_2 dX4_imageBy_12 (q := 13) rfl ?_
  refine mh_callS1 ca_X4_imageBy_13 (q := 16) rfl (by simp [Value.category]) ⟨Nat.zero_le _, Nat.zero_le _⟩ ?_
  refine sp_X4_thirdsIn (by omega) ?_
  refine mh_iload_4 dX4_imageBy_16 (q := 18) rfl ?_
  refine mh_iadd dX4_imageBy_18 (q := 19) rfl ?_
  refine mh_iconst_3 dX4_imageBy_19 (q := 20) rfl ?_
  refine mh_callS2 ca_X4_imageBy_20 (q := 23) rfl (by simp [Value.category]) ⟨Nat.zero_le _, Nat.zero_le _⟩ ?_
  refine sp_J9_floorMod (by grind) (by grind) ?_
  refine mh_istore_6 dX4_imageBy_23 (q := 25) rfl ?_
  refine mh_iload_5 dX4_imageBy_25 (q := 27) rfl ?_
  refine mh_if_eq dX4_imageBy_27 (tgt := 37) (q := 30) rfl rfl (fun c27 => ?_) (fun c27 => ?_)
  · skip
    refine mh_bipush (v := (-9)) dX4_imageBy_37 (q := 39) rfl (by decide) ?_
    refine mh_ireturn dX4_imageBy_39 rfl rfl ?_
    unfold sgIm at hΦ
    first
    | (rw [if_pos (Or.inl c27)] at hΦ; exact hΦ F I frC.rf)
    | (rw [if_pos (Or.inr c34)] at hΦ; exact hΦ F I frC.rf)
  · skip
    refine mh_iload_5 dX4_imageBy_30 (q := 32) rfl ?_
    refine mh_iload_6 dX4_imageBy_32 (q := 34) rfl ?_
    refine mh_icmp_eq dX4_imageBy_34 (tgt := 40) (q := 37) rfl rfl (fun c34 => ?_) (fun c34 => ?_)
    · skip
      refine mh_aload_0 dX4_imageBy_40 (q := 41) rfl ?_
      refine mh_iload_2 dX4_imageBy_41 (q := 42) rfl ?_
      refine mh_iload_3 dX4_imageBy_42 (q := 43) rfl ?_
      refine mh_iload_4 dX4_imageBy_43 (q := 45) rfl ?_
      refine mh_callV3 ca_X4_imageBy_45 (shX4_0 h4) (q := 48) rfl (by simp [Value.category]) ⟨Nat.zero_le _, Nat.zero_le _⟩ ?_
      refine sp_X4_setOut h4 hr (gBd hH.2.1).1 hb (fun F1 I1 v1 v2 => ?_)
      refine mh_iconst_0 dX4_imageBy_48 (q := 49) rfl ?_
      refine mh_istore_7 dX4_imageBy_49 (q := 51) rfl ?_
      unfold sgIm at hΦ
      rw [if_neg (fun e => e.elim c27 (fun z => z c34))] at hΦ
      exact lp_X4_imageBy (kc := mX4_imageBy.2.2.2.2.cells) (ks := mX4_imageBy.2.2.2.2.slots) h4 _ _ _ _ _ 200 0 F1 I1 _ rfl (fun _ => rfl) (hH.fr v2) (hp.fr v2 hH.2.2.2.2.2.2.2.2.2.2) v1 (sgOk_st hb hr) (fun F2 I2 u2 => hΦ F2 I2 (v2.tr u2))
    · skip
      refine mh_bipush (v := (-9)) dX4_imageBy_37 (q := 39) rfl (by decide) ?_
      refine mh_ireturn dX4_imageBy_39 rfl rfl ?_
      unfold sgIm at hΦ
      first
      | (rw [if_pos (Or.inl c27)] at hΦ; exact hΦ F I frC.rf)
      | (rw [if_pos (Or.inr c34)] at hΦ; exact hΦ F I frC.rf)
