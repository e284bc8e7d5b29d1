/-! the law: a whole line -/
theorem sgRun_s {w h : Nat} {kd : Nat → Int32} {p : Nat → Nat} {g : mhSg} {n : Nat} (he : g.2.2.2.2.2.2 = 2) : sgRun w h kd p (n + 1) g = sgRun w h kd p n (sgStep w h kd p g) := by
  show (if _ then _ else _) = _
  rw [if_pos he]
theorem lnMid1 {w r : Nat} {au av bu bv : Int} : lnD w r au av 1 + lnR r bu bv 1 = 1 ↔ au + bu = 3 * ((r / 2 % w : Nat) : Int) + 1 + ((r % 2 : Nat) : Int) := by
  unfold lnD lnR lnE lnS lnIs
  rcases (show r % 2 = 0 ∨ r % 2 = 1 by omega) with e | e <;> simp (decide := true) only [e, if_true, if_false] <;> omega
theorem lnMid0 {w r : Nat} {au av bu bv : Int} : lnD w r au av 0 + lnR r bu bv 0 = 1 ↔ av + bv = 3 * ((r / 2 / w : Nat) : Int) + 1 + ((r % 2 : Nat) : Int) := by
  unfold lnD lnR lnE lnS lnIs
  rcases (show r % 2 = 0 ∨ r % 2 = 1 by omega) with e | e <;> simp (decide := true) only [e, if_true, if_false] <;> omega
set_option maxHeartbeats 4000000 in
set_option maxRecDepth 100000 in
theorem lp_L_go {l : Launch} {K : mhX} {kc ks : Nat} {Φ : mhQ} {S : List mhS} {F : mhF} {J : mhJ} {P : mhP} {b oo w h N : Nat} {x1 x2 x3 : Int32} {kd : Nat → Int32} {p : Nat → Nat} {I0 : mhI} {fl : Int32} (hne : b ≠ oo) (hkd : ∀ x, x < gSides w h → 0 ≤ kd x) (hN : N ≤ 200) : ∀ (m : Nat) (g : mhSg) (I : mhI) (au av bu bv tu td : Int) (o18 o19 o20 o21 o22 o23 o24 o25 o26 o27 o28 o29 o30 o31 o32 o33 o34 o35 o36 o37 o38 : Option Value), lwOf S I b w h kd → lwOut S I oo g.2.2.2.1 g.2.2.2.2.1 g.2.2.1 g.2.2.2.2.2.1 fl → frO oo I0 I → lnRel w p g au av bu bv tu td → sgOk w h p g → g.2.2.2.2.2.2 = 2 → tu ≤ 3500 → td ≤ 120 →  g.2.2.2.1 + m = N → (∀ I2, frO oo I0 I2 → lwOut S I2 oo (sgRun w h kd p m g).2.2.2.1 (sgRun w h kd p m g).2.2.2.2.1 (sgRun w h kd p m g).2.2.1 (sgRun w h kd p m g).2.2.2.2.2.1 fl → Φ (some (.int (sgRun w h kd p m g).2.2.2.2.2.2)) S F I2 J P) → mhV l K mL_go kc ks Φ 76 [some (.ref b), some (.int x1), some (.int x2), some (.int x3), some (.int (nI N)), some (.ref oo), some (.long (lJ au)), none, some (.long (lJ av)), none, some (.long (lJ bu)), none, some (.long (lJ bv)), none, some (.long (lJ tu)), none, some (.long (lJ td)), none, o18, o19, o20, o21, o22, o23, o24, o25, o26, o27, o28, o29, o30, o31, o32, o33, o34, o35, o36, o37, o38] [] S F I J P := by
  intro m
  induction m with
  | zero =>
    intro g I au av bu bv tu td o18 o19 o20 o21 o22 o23 o24 o25 o26 o27 o28 o29 o30 o31 o32 o33 o34 o35 o36 o37 o38 hO hU hf hrel hok he h1 h2 hc hΦ
    refine mh_iload_4 dL_go_76 (q := 78) rfl ?_
    refine mh_if_lt dL_go_78 (tgt := 90) (q := 81) rfl rfl (fun hh => absurd hh (nI_pos (by omega))) (fun _ => ?_)
    refine mh_aload_5 dL_go_81 (q := 83) rfl ?_
    refine mh_iconst_0 dL_go_83 (q := 84) rfl ?_
    refine mh_iald dL_go_84 (q := 85) rfl hU.1 (vp_in_nI (n := 0) (by decide) (by decide)) ?_
    rw [hU.2.1]
    refine mh_iload_4 dL_go_85 (q := 87) rfl ?_
    refine mh_icmp_ge dL_go_87 (tgt := 638) (q := 90) rfl rfl (fun _ => ?_) (fun hh => absurd (by rw [nI_leI (by omega) (by omega)]; omega) hh)
    refine mh_iconst_2 dL_go_638 (q := 639) rfl ?_
    refine mh_ireturn dL_go_639 rfl rfl ?_
    refine mh_cl (hΦ I hf hU) ?_
    first | exact he | exact he.symm
  | succ m ih =>
    intro g I au av bu bv tu td o18 o19 o20 o21 o22 o23 o24 o25 o26 o27 o28 o29 o30 o31 o32 o33 o34 o35 o36 o37 o38 hO hU hf hrel hok he h1 h2 hc hΦ
    have hr := hok.2.1
    have hbd := hrel.bd hok h1 h2
    have hat := hrel.2.2.2
    obtain ⟨k, hb, hk, hRk, -⟩ := lnOk.f3 hrel
    have hbk := hbd.1 k hk
    rw [sgRun_s he] at hΦ
    refine mh_iload_4 dL_go_76 (q := 78) rfl ?_
    refine mh_if_lt dL_go_78 (tgt := 90) (q := 81) rfl rfl (fun hh => absurd hh (nI_pos (by omega))) (fun _ => ?_)
    refine mh_aload_5 dL_go_81 (q := 83) rfl ?_
    refine mh_iconst_0 dL_go_83 (q := 84) rfl ?_
    refine mh_iald dL_go_84 (q := 85) rfl hU.1 (vp_in_nI (n := 0) (by decide) (by decide)) ?_
    rw [hU.2.1]
    refine mh_iload_4 dL_go_85 (q := 87) rfl ?_
    refine mh_icmp_ge dL_go_87 (tgt := 638) (q := 90) rfl rfl (fun hh => absurd hh (by rw [nI_leI (by omega) (by omega)]; omega)) (fun _ => ?_)
    refine mx_L_go hO hU hr hbd hat _ _ _ _ _ _ _ _ _ _ _ _ _ _ _ _ _ _ _ _ _ (fun o33 o34 o35 o36 o37 o38 => ?_)
    refine mh_iload_4 dL_go_380 (q := 382) rfl ?_
    refine mh_if_ge dL_go_382 (tgt := 438) (q := 385) rfl rfl (fun _ => ?_) (fun hh => absurd (nI_pos' (by omega)) hh)
    refine st_L_go hO hU hne hr hk hkd hb _ _ _ _ _ _ (fun hp => ?_) (fun hp ck0 ho I2 hf2 hU2 => ?_) (fun hp ck0 q hq ho I2 hf2 hU2 => ?_) (fun hp ck0 I2 hf2 hU2 => ?_)
    · have e := lnRel.postE (h := h) (kd := kd) hrel hp
      rw [sgRun_end (by rw [e]; exact (show ¬ (0 : Int32) = 2 by decide)), e] at hΦ
      exact hΦ I hf hU
    · have e := lnRel.out (h := h) (kd := kd) hrel hb hp ck0 ho
      rw [sgRun_end (by rw [e]; exact (show ¬ (1 : Int32) = 2 by decide)), e] at hΦ
      exact hΦ I2 (hf.tr hf2) hU2
    · obtain ⟨e, hrel2⟩ := lnRel.cross hO.2.1 hrel hr hb hp ck0 hq ho
      intro o18 o19 o20 o21 o22 o23 o24 o25 o26 o27 o28 o29 o30 o31 o32 o33 o34 o35 o36 o37 o38
      exact ih (sgStep w h kd p g) I2 _ _ _ _ _ _ _ _ _ _ _ _ _ _ _ _ _ _ _ _ _ _ _ _ _ _ _ (hO.fr hf2 hne) (by rw [e]; exact hU2) (hf.tr hf2) hrel2 (sgOk_step hO.2.1 hok (by omega)) (by rw [e]; exact he) (by omega) (by omega) (by rw [e]; show g.2.2.2.1 + 1 + m = N; omega) hΦ
    · obtain ⟨e, hrel2⟩ := lnRel.mirror (h := h) (kd := kd) hrel hb hp ck0
      intro o18 o19 o20 o21 o22 o23 o24 o25 o26 o27 o28 o29 o30 o31 o32 o33 o34 o35 o36 o37 o38
      exact ih (sgStep w h kd p g) I2 _ _ _ _ _ _ _ _ _ _ _ _ _ _ _ _ _ _ _ _ _ _ _ _ _ _ _ (hO.fr hf2 hne) (by rw [e]; exact hU2) (hf.tr hf2) hrel2 (sgOk_step hO.2.1 hok (by omega)) (by rw [e]; exact he) (by omega) (by omega) (by rw [e]; show g.2.2.2.1 + 1 + m = N; omega) hΦ
set_option maxHeartbeats 4000000 in
set_option maxRecDepth 100000 in
theorem bd_L_goI {l : Launch} {K : mhX} {kc ks : Nat} {Φ : mhQ} {S : List mhS} {F : mhF} {I : mhI} {J : mhJ} {P : mhP} {b oo w h : Nat} {x1 x2 x3 : Int32} {kd : Nat → Int32} {p : Nat → Nat} {I0 : mhI} {C0 : Prop} (hne : b ≠ oo) (hkd : ∀ x, x < gSides w h → 0 ≤ kd x) {M : Nat} {g : mhSg} {au av bu bv tu td : Int} (o18 o19 o20 o21 o22 o23 o24 o25 o26 o27 o28 o29 o30 o31 o32 o33 o34 o35 o36 o37 o38 : Option Value) (ih : ∀ (m : Nat), M = m + 1 → ∀ (g : mhSg) (I : mhI) (au av bu bv tu td : Int) (o18 o19 o20 o21 o22 o23 o24 o25 o26 o27 o28 o29 o30 o31 o32 o33 o34 o35 o36 o37 o38 : Option Value), lwOf S I b w h kd → lwOut S I oo g.2.2.2.1 g.2.2.2.2.1 g.2.2.1 g.2.2.2.2.2.1 0 → frO oo I0 I → lnRel w p g au av bu bv tu td → sgOk w h p g → g.2.2.2.2.2.2 = 2 → tu ≤ 3500 → td ≤ 120 →  sgMu p g.1 ≤ m → g.2.2.2.1 + m ≤ 400 → (lnC (lnD w g.2.2.1 au av) (lnR g.2.2.1 bu bv) ↔ C0) → tu < td → (∀ I2 fl2, frO oo I0 I2 → lwOut S I2 oo (sgIt w h kd p m g).2.2.2.1 (sgIt w h kd p m g).2.2.2.2.1 (sgIt w h kd p m g).2.2.1 (sgIt w h kd p m g).2.2.2.2.2.1 fl2 → ((sgIt w h kd p m g).2.2.2.2.2.2 = 2 → (C0 → fl2 = 1) ∧ (¬ C0 → fl2 = 0)) → Φ (some (.int (sgIt w h kd p m g).2.2.2.2.2.2)) S F I2 J P) → mhV l K mL_go kc ks Φ 76 [some (.ref b), some (.int x1), some (.int x2), some (.int x3), some (.int (-1)), some (.ref oo), some (.long (lJ au)), none, some (.long (lJ av)), none, some (.long (lJ bu)), none, some (.long (lJ bv)), none, some (.long (lJ tu)), none, some (.long (lJ td)), none, o18, o19, o20, o21, o22, o23, o24, o25, o26, o27, o28, o29, o30, o31, o32, o33, o34, o35, o36, o37, o38] [] S F I J P) (hO : lwOf S I b w h kd) (hU : lwOut S I oo g.2.2.2.1 g.2.2.2.2.1 g.2.2.1 g.2.2.2.2.2.1 0) (hf : frO oo I0 I) (hrel : lnRel w p g au av bu bv tu td) (hok : sgOk w h p g) (he : g.2.2.2.2.2.2 = 2) (h1 : tu ≤ 3500) (h2 : td ≤ 120) (hmu0 : sgMu p g.1 ≤ M) (hcM : g.2.2.2.1 + M ≤ 400) (hC : lnC (lnD w g.2.2.1 au av) (lnR g.2.2.1 bu bv) ↔ C0) (h3 : tu < td) (hΦ : (∀ I2 fl2, frO oo I0 I2 → lwOut S I2 oo (sgIt w h kd p M g).2.2.2.1 (sgIt w h kd p M g).2.2.2.2.1 (sgIt w h kd p M g).2.2.1 (sgIt w h kd p M g).2.2.2.2.2.1 fl2 → ((sgIt w h kd p M g).2.2.2.2.2.2 = 2 → (C0 → fl2 = 1) ∧ (¬ C0 → fl2 = 0)) → Φ (some (.int (sgIt w h kd p M g).2.2.2.2.2.2)) S F I2 J P)) : mhV l K mL_go kc ks Φ 76 [some (.ref b), some (.int x1), some (.int x2), some (.int x3), some (.int (-1)), some (.ref oo), some (.long (lJ au)), none, some (.long (lJ av)), none, some (.long (lJ bu)), none, some (.long (lJ bv)), none, some (.long (lJ tu)), none, some (.long (lJ td)), none, o18, o19, o20, o21, o22, o23, o24, o25, o26, o27, o28, o29, o30, o31, o32, o33, o34, o35, o36, o37, o38] [] S F I J P := by
  have hr := hok.2.1
  have hbd := hrel.bd hok h1 h2
  have hat := hrel.2.2.2
  obtain ⟨k, hb, hk, hRk, -⟩ := lnOk.f3 hrel
  have hbk := hbd.1 k hk
  have hg := hO.2.1
  have hrm := gBd hg
  have hw1 := hg.1
  have hw2 := hg.2.1
  have a1 : (-3600 ≤ au ∧ au ≤ 3600) ∧ (-120 ≤ bu ∧ bu ≤ 120) := lnS_b hg hr (k := 1) (by omega) hbd
  have a0 : (-3600 ≤ av ∧ av ≤ 3600) ∧ (-120 ≤ bv ∧ bv ≤ 120) := lnS_b hg hr (k := 0) (by omega) hbd
  have hd1 : g.2.2.1 / 2 % w ≤ g.2.2.1 := Nat.le_trans (Nat.mod_le _ _) (Nat.div_le_self _ _)
  have hd2 : g.2.2.1 / 2 / w ≤ g.2.2.1 := Nat.le_trans (Nat.div_le_self _ _) (Nat.div_le_self _ _)
  have i1 : (0 : Int) ≤ ((g.2.2.1 / 2 % w : Nat) : Int) ∧ ((g.2.2.1 / 2 % w : Nat) : Int) ≤ 24 := ⟨Int.natCast_nonneg _, by have q : g.2.2.1 / 2 % w ≤ 24 := Nat.le_trans hd1 (Nat.le_trans (Nat.le_of_lt hr) hrm.1); exact Int.ofNat_le.mpr q⟩
  have i2 : (0 : Int) ≤ ((g.2.2.1 / 2 / w : Nat) : Int) ∧ ((g.2.2.1 / 2 / w : Nat) : Int) ≤ 24 := ⟨Int.natCast_nonneg _, by have q : g.2.2.1 / 2 / w ≤ 24 := Nat.le_trans hd2 (Nat.le_trans (Nat.le_of_lt hr) hrm.1); exact Int.ofNat_le.mpr q⟩
  have eN : lvN (lnD w g.2.2.1 au av) (lnF (lnD w g.2.2.1 au av) (lnR g.2.2.1 bu bv) 3) = lnD w g.2.2.1 au av k := by unfold lvN; rw [hb]
  have eD : lvD (lnR g.2.2.1 bu bv) (lnF (lnD w g.2.2.1 au av) (lnR g.2.2.1 bu bv) 3) = -(lnR g.2.2.1 bu bv k) := by unfold lvD; rw [hb]
  refine mh_iload_4 dL_go_76 (q := 78) rfl ?_
  refine mh_if_lt dL_go_78 (tgt := 90) (q := 81) rfl rfl (fun _ => ?_) (fun hh => absurd (by decide) hh)
  refine mx_L_go hO hU hr hbd hat _ _ _ _ _ _ _ _ _ _ _ _ _ _ _ _ _ _ _ _ _ (fun o33 o34 o35 o36 o37 o38 => ?_)
  refine mh_iload_4 dL_go_380 (q := 382) rfl ?_
  refine mh_if_ge dL_go_382 (tgt := 438) (q := 385) rfl rfl (fun hh => False.elim (by revert hh; decide)) (fun _ => ?_)
  refine mh_lload_26 dL_go_385 (q := 387) rfl ?_
  refine mh_lload_28 dL_go_387 (q := 389) rfl ?_
  refine mh_lc_lt dL_go_389 (q1 := 390) rfl dL_go_390 (tgt := 438) (q := 393) rfl rfl (by rw [eN]; exact ⟨by omega, by omega⟩) (by rw [eD]; exact ⟨by omega, by omega⟩) (fun cn => ?_) (fun cn => ?_)
  · skip
    rw [eN, eD] at cn
    have hah : sgAh p g.1 := (lnOk.ah hrel hb).mpr cn
    have hmu := sgMu_pos hah
    obtain ⟨M, rfl⟩ : ∃ m, M = m + 1 := ⟨M - 1, by omega⟩
    rw [sgIt_s he hah] at hΦ
    refine st_L_go hO hU hne hr hk hkd hb _ _ _ _ _ _ (fun hp => ?_) (fun hp ck0 ho I2 hf2 hU2 => ?_) (fun hp ck0 q hq ho I2 hf2 hU2 => ?_) (fun hp ck0 I2 hf2 hU2 => ?_)
    · have e := lnRel.postE (h := h) (kd := kd) hrel hp
      rw [sgIt_e (fun z => by have z1 := z.1; rw [e] at z1; exact absurd z1 (show ¬ (0 : Int32) = 2 by decide)), e] at hΦ
      exact hΦ I _ hf hU (fun z => absurd z (show ¬ (0 : Int32) = 2 by decide))
    · have e := lnRel.out (h := h) (kd := kd) hrel hb hp ck0 ho
      rw [sgIt_e (fun z => by have z1 := z.1; rw [e] at z1; exact absurd z1 (show ¬ (1 : Int32) = 2 by decide)), e] at hΦ
      exact hΦ I2 _ (hf.tr hf2) hU2 (fun z => absurd z (show ¬ (1 : Int32) = 2 by decide))
    · obtain ⟨e, hrel2⟩ := lnRel.cross hO.2.1 hrel hr hb hp ck0 hq ho
      have he2 : (sgStep w h kd p g).2.2.2.2.2.2 = 2 := by rw [e]; exact he
      have hmu2 := sgMu_step hah he2
      intro o18 o19 o20 o21 o22 o23 o24 o25 o26 o27 o28 o29 o30 o31 o32 o33 o34 o35 o36 o37 o38
      exact ih M rfl (sgStep w h kd p g) I2 _ _ _ _ _ _ _ _ _ _ _ _ _ _ _ _ _ _ _ _ _ _ _ _ _ _ _ (hO.fr hf2 hne) (by rw [e]; exact hU2) (hf.tr hf2) hrel2 (sgOk_step hO.2.1 hok (by omega)) he2 (by omega) (by omega) (by omega) (by rw [e]; show g.2.2.2.1 + 1 + M ≤ 400; omega) (by rw [e]; exact (lnC_cross hO.2.1 hrel hr hk hq ho).trans hC) (by omega) hΦ
    · obtain ⟨e, hrel2⟩ := lnRel.mirror (h := h) (kd := kd) hrel hb hp ck0
      have he2 : (sgStep w h kd p g).2.2.2.2.2.2 = 2 := by rw [e]; exact he
      have hmu2 := sgMu_step hah he2
      intro o18 o19 o20 o21 o22 o23 o24 o25 o26 o27 o28 o29 o30 o31 o32 o33 o34 o35 o36 o37 o38
      exact ih M rfl (sgStep w h kd p g) I2 _ _ _ _ _ _ _ _ _ _ _ _ _ _ _ _ _ _ _ _ _ _ _ _ _ _ _ (hO.fr hf2 hne) (by rw [e]; exact hU2) (hf.tr hf2) hrel2 (sgOk_step hO.2.1 hok (by omega)) he2 (by omega) (by omega) (by omega) (by rw [e]; show g.2.2.2.1 + 1 + M ≤ 400; omega) (by rw [e]; exact (lnC_mirror hrel hk).trans hC) (by omega) hΦ
  · skip
    rw [eN, eD] at cn
    have hmid := lnOk.mid hrel hb cn h3
    rw [sgIt_e (fun z => cn ((lnOk.ah hrel hb).mp z.2))] at hΦ
    refine mh_aload_5 dL_go_393 (q := 395) rfl ?_
    refine mh_iconst_4 dL_go_395 (q := 396) rfl ?_
    refine mh_lload_6 dL_go_396 (q := 398) rfl ?_
    refine mh_lload_10 dL_go_398 (q := 400) rfl ?_
    refine mh_laddJ dL_go_400 (q := 401) rfl ?_
    refine mh_lload_19 dL_go_401 (q := 403) rfl ?_
    refine mh_lconstJ_1 dL_go_403 (q := 404) rfl ?_
    refine mh_laddJ dL_go_404 (q := 405) rfl ?_
    refine mh_iload_23 dL_go_405 (q := 407) rfl ?_
    refine mh_i2lN rfl (by omega) dL_go_407 (q := 408) rfl ?_
    refine mh_laddJ dL_go_408 (q := 409) rfl ?_
    refine mh_lc_ne dL_go_409 (q1 := 410) rfl dL_go_410 (tgt := 434) (q := 413) rfl rfl ⟨by omega, by omega⟩ ⟨by omega, by omega⟩ (fun cu => ?_) (fun cu => ?_)
    · skip
      refine mh_iconst_0 dL_go_434 (q := 435) rfl ?_
      refine mh_iast dL_go_435 (q := 436) rfl hU.1 (by decide) (vp_in_nI (n := 4) (by decide) (by decide)) ?_
      refine mh_iconst_2 dL_go_436 (q := 437) rfl ?_
      refine mh_ireturn dL_go_437 rfl rfl ?_
      refine mh_cl (hΦ _ _ (hf.tr frO.up) (hU.u4 _) (fun _ => ⟨fun z => absurd z (fun z => ?_), fun _ => rfl⟩)) ?_
      · have z2 := hmid.mpr (hC.mpr z)
        exact cu (lnMid1.mp z2.2)
      · first | exact he | exact he.symm
    · skip
      refine mh_lload_8 dL_go_413 (q := 415) rfl ?_
      refine mh_lload_12 dL_go_415 (q := 417) rfl ?_
      refine mh_laddJ dL_go_417 (q := 418) rfl ?_
      refine mh_lload_21 dL_go_418 (q := 420) rfl ?_
      refine mh_lconstJ_1 dL_go_420 (q := 421) rfl ?_
      refine mh_laddJ dL_go_421 (q := 422) rfl ?_
      refine mh_iload_23 dL_go_422 (q := 424) rfl ?_
      refine mh_i2lN rfl (by omega) dL_go_424 (q := 425) rfl ?_
      refine mh_laddJ dL_go_425 (q := 426) rfl ?_
      refine mh_lc_ne dL_go_426 (q1 := 427) rfl dL_go_427 (tgt := 434) (q := 430) rfl rfl ⟨by omega, by omega⟩ ⟨by omega, by omega⟩ (fun cv => ?_) (fun cv => ?_)
      · skip
        refine mh_iconst_0 dL_go_434 (q := 435) rfl ?_
        refine mh_iast dL_go_435 (q := 436) rfl hU.1 (by decide) (vp_in_nI (n := 4) (by decide) (by decide)) ?_
        refine mh_iconst_2 dL_go_436 (q := 437) rfl ?_
        refine mh_ireturn dL_go_437 rfl rfl ?_
        refine mh_cl (hΦ _ _ (hf.tr frO.up) (hU.u4 _) (fun _ => ⟨fun z => absurd z (fun z => ?_), fun _ => rfl⟩)) ?_
        · have z2 := hmid.mpr (hC.mpr z)
          exact cv (lnMid0.mp z2.1)
        · first | exact he | exact he.symm
      · skip
        refine mh_iconst_1 dL_go_430 (q := 431) rfl ?_
        refine mh_goto dL_go_431 (tgt := 435) rfl ?_
        refine mh_iast dL_go_435 (q := 436) rfl hU.1 (by decide) (vp_in_nI (n := 4) (by decide) (by decide)) ?_
        refine mh_iconst_2 dL_go_436 (q := 437) rfl ?_
        refine mh_ireturn dL_go_437 rfl rfl ?_
        refine mh_cl (hΦ _ _ (hf.tr frO.up) (hU.u4 _) (fun _ => ⟨fun _ => rfl, fun z => absurd (hC.mp (hmid.mp ⟨lnMid0.mpr cv, lnMid1.mpr cu⟩)) z⟩)) ?_
        first | exact he | exact he.symm
set_option maxHeartbeats 4000000 in
set_option maxRecDepth 100000 in
theorem lp_L_goI {l : Launch} {K : mhX} {kc ks : Nat} {Φ : mhQ} {S : List mhS} {F : mhF} {J : mhJ} {P : mhP} {b oo w h : Nat} {x1 x2 x3 : Int32} {kd : Nat → Int32} {p : Nat → Nat} {I0 : mhI} {C0 : Prop} (hne : b ≠ oo) (hkd : ∀ x, x < gSides w h → 0 ≤ kd x) : ∀ (M : Nat) (g : mhSg) (I : mhI) (au av bu bv tu td : Int) (o18 o19 o20 o21 o22 o23 o24 o25 o26 o27 o28 o29 o30 o31 o32 o33 o34 o35 o36 o37 o38 : Option Value), lwOf S I b w h kd → lwOut S I oo g.2.2.2.1 g.2.2.2.2.1 g.2.2.1 g.2.2.2.2.2.1 0 → frO oo I0 I → lnRel w p g au av bu bv tu td → sgOk w h p g → g.2.2.2.2.2.2 = 2 → tu ≤ 3500 → td ≤ 120 →  sgMu p g.1 ≤ M → g.2.2.2.1 + M ≤ 400 → (lnC (lnD w g.2.2.1 au av) (lnR g.2.2.1 bu bv) ↔ C0) → tu < td → (∀ I2 fl2, frO oo I0 I2 → lwOut S I2 oo (sgIt w h kd p M g).2.2.2.1 (sgIt w h kd p M g).2.2.2.2.1 (sgIt w h kd p M g).2.2.1 (sgIt w h kd p M g).2.2.2.2.2.1 fl2 → ((sgIt w h kd p M g).2.2.2.2.2.2 = 2 → (C0 → fl2 = 1) ∧ (¬ C0 → fl2 = 0)) → Φ (some (.int (sgIt w h kd p M g).2.2.2.2.2.2)) S F I2 J P) → mhV l K mL_go kc ks Φ 76 [some (.ref b), some (.int x1), some (.int x2), some (.int x3), some (.int (-1)), some (.ref oo), some (.long (lJ au)), none, some (.long (lJ av)), none, some (.long (lJ bu)), none, some (.long (lJ bv)), none, some (.long (lJ tu)), none, some (.long (lJ td)), none, o18, o19, o20, o21, o22, o23, o24, o25, o26, o27, o28, o29, o30, o31, o32, o33, o34, o35, o36, o37, o38] [] S F I J P := by
  intro M
  induction M with
  | zero =>
    intro g I au av bu bv tu td o18 o19 o20 o21 o22 o23 o24 o25 o26 o27 o28 o29 o30 o31 o32 o33 o34 o35 o36 o37 o38 hO hU hf hrel hok he h1 h2 hmu hcM hC h3 hΦ
    exact bd_L_goI hne hkd _ _ _ _ _ _ _ _ _ _ _ _ _ _ _ _ _ _ _ _ _ (fun m e => absurd e (by omega)) hO hU hf hrel hok he h1 h2 hmu hcM hC h3 hΦ
  | succ M ih =>
    intro g I au av bu bv tu td o18 o19 o20 o21 o22 o23 o24 o25 o26 o27 o28 o29 o30 o31 o32 o33 o34 o35 o36 o37 o38 hO hU hf hrel hok he h1 h2 hmu hcM hC h3 hΦ
    exact bd_L_goI hne hkd _ _ _ _ _ _ _ _ _ _ _ _ _ _ _ _ _ _ _ _ _ (fun m e => by (have e2 : M = m := by omega); subst e2; exact ih) hO hU hf hrel hok he h1 h2 hmu hcM hC h3 hΦ
