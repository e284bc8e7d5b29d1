/-! the law's line and the class's, side by side -/
def lnRel (w : Nat) (p : Nat → Nat) (g : mhSg) (au av bu bv tu td : Int) : Prop := lnOk p g.1 g.2.1 (lnD w g.2.2.1 au av) (lnR g.2.2.1 bu bv) tu td
section LNR
variable {w h : Nat} {kd : Nat → Int32} {p : Nat → Nat} {g : mhSg} {au av bu bv tu td : Int}
theorem lnRel.mirror (hr : lnRel w p g au av bu bv tu td) {k : Nat} (hb : (lnF (lnD w g.2.2.1 au av) (lnR g.2.2.1 bu bv) 3).1 = some k) (hp : (lnF (lnD w g.2.2.1 au av) (lnR g.2.2.1 bu bv) 3).2 = false) (hk : kd (gSide w h g.2.2.1 k) = 0) :
    (sgStep w h kd p g).2.2 = (g.2.2.1, g.2.2.2.1 + 1, g.2.2.2.2.1 + 1, nI (gSide w h g.2.2.1 k), g.2.2.2.2.2.2) ∧ lnRel w p (sgStep w h kd p g) (mrU k au av (lnIs w g.2.2.1 k)) (mrV k au av (lnIs w g.2.2.1 k)) (mrBU k bu bv) (mrBV k bu bv) (lnD w g.2.2.1 au av k) (-(lnR g.2.2.1 bu bv k)) := by
  obtain ⟨a, ha, ea, hn, e1, e2, hm⟩ := hr.next hb hp
  have e : sgStep w h kd p g = (sgUp g.1 a, sgFold g.2.1 a, g.2.2.1, g.2.2.2.1 + 1, g.2.2.2.2.1 + 1, nI (gSide w h g.2.2.1 k), g.2.2.2.2.2.2) := by
    unfold sgStep
    rw [hn]
    dsimp only
    rw [ea, if_pos hk]
  rw [e]
  refine ⟨rfl, ?_⟩
  have hk3 := hm.1
  have hc := (hr.cross ha (ea ▸ hm)).fold (k := k) hk3
  rw [ea] at hc
  exact hc.congr (fun x hx => by rw [← ea]; exact sgFold_sw hr.2.1 ha hx) (fun x hx => lnD_m hk3 hx) (fun x hx => lnR_m hk3 hx)
theorem lnRel.out (hr : lnRel w p g au av bu bv tu td) {k : Nat} (hb : (lnF (lnD w g.2.2.1 au av) (lnR g.2.2.1 bu bv) 3).1 = some k) (hp : (lnF (lnD w g.2.2.1 au av) (lnR g.2.2.1 bu bv) 3).2 = false) (hk : ¬ kd (gSide w h g.2.2.1 k) = 0) (ho : gB w h g.2.2.1 k = -9) :
    (sgStep w h kd p g).2.2 = (g.2.2.1, g.2.2.2.1 + 1, g.2.2.2.2.1, nI (gSide w h g.2.2.1 k), 1) := by
  obtain ⟨a, ha, ea, hn, e1, e2, hm⟩ := hr.next hb hp
  unfold sgStep
  rw [hn]
  dsimp only
  rw [ea, if_neg hk, if_pos ho]
theorem lnRel.cross (gk : gOk w h) (hr : lnRel w p g au av bu bv tu td) (hg : g.2.2.1 < gRooms w h) {k : Nat} (hb : (lnF (lnD w g.2.2.1 au av) (lnR g.2.2.1 bu bv) 3).1 = some k) (hp : (lnF (lnD w g.2.2.1 au av) (lnR g.2.2.1 bu bv) 3).2 = false) (hk : ¬ kd (gSide w h g.2.2.1 k) = 0) {q : Nat} (hq : q < gRooms w h) (ho : gB w h g.2.2.1 k = nI q) :
    (sgStep w h kd p g).2.2 = (q, g.2.2.2.1 + 1, g.2.2.2.2.1, nI (gSide w h g.2.2.1 k), g.2.2.2.2.2.2) ∧ lnRel w p (sgStep w h kd p g) au av bu bv (lnD w g.2.2.1 au av k) (-(lnR g.2.2.1 bu bv k)) := by
  obtain ⟨a, ha, ea, hn, e1, e2, hm⟩ := hr.next hb hp
  have hbd := gBd gk
  have hne : ¬ gB w h g.2.2.1 k = -9 := by rw [ho]; exact mh_n9 (by omega)
  have e : sgStep w h kd p g = (sgUp g.1 a, g.2.1, q, g.2.2.2.1 + 1, g.2.2.2.2.1, nI (gSide w h g.2.2.1 k), g.2.2.2.2.2.2) := by
    unfold sgStep
    rw [hn]
    dsimp only
    rw [ea, if_neg hk, if_neg hne, ho, nI_clamp (by omega)]
  rw [e]
  refine ⟨rfl, ?_⟩
  have hk3 := hm.1
  obtain ⟨q', hq', e3, e4, e5⟩ := gL gk hg hk3 hne
  have eq : q' = q := by
    rw [ho] at e3
    have h1 := nI_toInt (show q < 2 ^ 31 by omega)
    have h2 := nI_toInt (show q' < 2 ^ 31 by omega)
    rw [e3, h2] at h1
    omega
  subst eq
  have hc := lnOk.cross hr ha (ea ▸ hm)
  rw [ea] at hc
  exact hc.congr (fun _ _ => rfl) (fun x hx => lnD_q e4 (e5 x hx)) (fun x hx => lnR_q e4)
theorem lnRel.postE (hr : lnRel w p g au av bu bv tu td) (hp : (lnF (lnD w g.2.2.1 au av) (lnR g.2.2.1 bu bv) 3).2 = true) : (sgStep w h kd p g).2.2 = (g.2.2.1, g.2.2.2.1, g.2.2.2.2.1, g.2.2.2.2.2.1, 0) := by
  unfold sgStep
  rw [lnOk.post hr hp]
theorem lnC_mirror (hr : lnRel w p g au av bu bv tu td) {k : Nat} (hk : k < 3) : lnC (lnD w g.2.2.1 (mrU k au av (lnIs w g.2.2.1 k)) (mrV k au av (lnIs w g.2.2.1 k))) (lnR g.2.2.1 (mrBU k bu bv) (mrBV k bu bv)) ↔ lnC (lnD w g.2.2.1 au av) (lnR g.2.2.1 bu bv) := by
  have hs := hr.1
  have hs2 : lnSum (lnCD (lnD w g.2.2.1 au av) k) (lnCR (lnR g.2.2.1 bu bv)) := by
    obtain ⟨s1, s2, s3⟩ := hs
    refine ⟨?_, ?_, ?_⟩
    · rcases ln3 hk with q | q | q <;> (rw [q]; simp (decide := true) only [lnCD, if_true, if_false]; omega)
    · simp only [lnCR]; omega
    · simp only [lnCR]; omega
  exact (lnC.congr (fun x hx => lnD_m hk hx) (fun x hx => lnR_m hk hx)).trans ((lnC.fold hs2 hk).trans (lnC.cross hs hk))
theorem lnC_cross (gk : gOk w h) (hr : lnRel w p g au av bu bv tu td) (hg : g.2.2.1 < gRooms w h) {k q : Nat} (hk : k < 3) (hq : q < gRooms w h) (ho : gB w h g.2.2.1 k = nI q) : lnC (lnD w q au av) (lnR q bu bv) ↔ lnC (lnD w g.2.2.1 au av) (lnR g.2.2.1 bu bv) := by
  have hbd := gBd gk
  have hne : ¬ gB w h g.2.2.1 k = -9 := by rw [ho]; exact mh_n9 (by omega)
  obtain ⟨q', hq', e3, e4, e5⟩ := gL gk hg hk hne
  have eq : q' = q := by
    rw [ho] at e3
    have h1 := nI_toInt (show q < 2 ^ 31 by omega)
    have h2 := nI_toInt (show q' < 2 ^ 31 by omega)
    rw [e3, h2] at h1
    omega
  subst eq
  exact (lnC.congr (fun x hx => lnD_q e4 (e5 x hx)) (fun x hx => lnR_q e4)).trans (lnC.cross hr.1 hk)
/-- bounds -/
def lnBd (D R : Nat → Int) (tu td : Int) : Prop := (∀ k, k < 3 → (-3500 ≤ D k ∧ D k ≤ 3500) ∧ (-120 ≤ R k ∧ R k ≤ 120)) ∧ (0 ≤ tu ∧ tu ≤ 3500) ∧ 0 < td ∧ td ≤ 120
theorem lnRel.bd (hr : lnRel w p g au av bu bv tu td) (hok : sgOk w h p g) (h1 : tu ≤ 3500) (h2 : td ≤ 120) : lnBd (lnD w g.2.2.1 au av) (lnR g.2.2.1 bu bv) tu td := by
  refine ⟨fun k hk => ?_, ⟨hr.2.2.2.2.1, h1⟩, hr.2.2.2.1, h2⟩
  obtain ⟨a, ha, -, m1, m2, m3⟩ := hr.m hk
  have := hok.1 a ha
  have := hok.2.2.1
  rcases Int.lt_trichotomy (lnR g.2.2.1 bu bv k) 0 with q | q | q
  · have := m1 q; omega
  · have := m3 q; omega
  · have := m2 q; omega
theorem lnIs_bl : ∀ w ∈ [1, 2, 3, 4], ∀ h ∈ [1, 2, 3], ∀ r ∈ List.range (gRooms w h), ∀ k ∈ [0, 1, 2], 0 ≤ lnIs w r k ∧ lnIs w r k ≤ 30 := by decide +kernel
theorem lnIs_b {r k : Nat} (g : gOk w h) (hr : r < gRooms w h) (hk : k < 3) : 0 ≤ lnIs w r k ∧ lnIs w r k ≤ 30 := lnIs_bl w (gWl g.1 g.2.1) h (gHl g.2.2.1 g.2.2.2) r (List.mem_range.mpr hr) k (gDl hk)
theorem lnS_b {r k : Nat} (g : gOk w h) (hr : r < gRooms w h) (hk : k < 3) (hb : lnBd (lnD w r au av) (lnR r bu bv) tu td) : (-3600 ≤ lnS au av k ∧ lnS au av k ≤ 3600) ∧ (-120 ≤ lnS bu bv k ∧ lnS bu bv k ≤ 120) := by
  have h1 := lnIs_b g hr hk
  have h2 := hb.1 k hk
  unfold lnD lnR at h2
  rcases lnE_1 r k with e | e <;> (rw [e] at h2; omega)
end LNR
theorem lB_mul {x y : Int} (hx : -4000 ≤ x ∧ x ≤ 4000) (hy : -4000 ≤ y ∧ y ≤ 4000) : lB (x * y) := by
  have h1 : x.natAbs ≤ 4000 := by omega
  have h2 : y.natAbs ≤ 4000 := by omega
  have h3 := Nat.mul_le_mul h1 h2
  rw [← Int.natAbs_mul] at h3
  generalize x * y = z at *
  exact ⟨by omega, by omega⟩
/-! the start -/
theorem sl_toInt {p q : Int32} (hb : sgBd p q) {d : Nat} (hd : d < 3) : (sgSl p q d).toInt = lnS p.toInt q.toInt d ∧ (-120 ≤ lnS p.toInt q.toInt d ∧ lnS p.toInt q.toInt d ≤ 120) := by
  obtain ⟨⟨a1, a2⟩, b1, b2⟩ := hb
  have a1' := Int32.le_iff_toInt_le.mp a1
  have a2' := Int32.le_iff_toInt_le.mp a2
  have b1' := Int32.le_iff_toInt_le.mp b1
  have b2' := Int32.le_iff_toInt_le.mp b2
  have z1 : (-60 : Int32).toInt = -60 := rfl
  have z2 : (60 : Int32).toInt = 60 := rfl
  rw [z1] at a1' b1'
  rw [z2] at a2' b2'
  have e : (p + q).toInt = p.toInt + q.toInt := by
    rw [Int32.toInt_add]
    exact Int.bmod_eq_of_le (by omega) (by omega)
  rcases ln3 hd with rfl | rfl | rfl
  · exact ⟨rfl, by unfold lnS; simp (decide := true) only [if_true, if_false]; omega⟩
  · exact ⟨rfl, by unfold lnS; simp (decide := true) only [if_true, if_false]; omega⟩
  · refine ⟨?_, by unfold lnS; simp (decide := true) only [if_true, if_false]; omega⟩
    show (p + q).toInt = p.toInt + q.toInt
    exact e
theorem sgPa_abs {p q : Int32} (hb : sgBd p q) {d : Nat} (hd : d < 3) : (0 ≤ lnS p.toInt q.toInt d → (sgPa p q d : Int) = lnS p.toInt q.toInt d) ∧ (lnS p.toInt q.toInt d < 0 → (sgPa p q d : Int) = -(lnS p.toInt q.toInt d)) := by
  obtain ⟨h1, h2⟩ := sgPa_nI hb d
  obtain ⟨h3, h4⟩ := sl_toInt hb hd
  have h5 := nI_toInt (show sgPa p q d < 2 ^ 31 by omega)
  have z : (0 : Int32).toInt = 0 := rfl
  rw [h1] at h5
  refine ⟨fun h0 => ?_, fun h0 => ?_⟩
  · rw [if_pos (Int32.le_iff_toInt_le.mpr (by rw [z, h3]; exact h0)), h3] at h5
    exact h5.symm
  · rw [if_neg (fun q => by have := Int32.le_iff_toInt_le.mp q; rw [z, h3] at this; omega), Int32.toInt_sub, z, h3] at h5
    rw [← h5]
    exact (Int.bmod_eq_of_le (by omega) (by omega)).trans (by omega)
theorem sgLi_E {r d : Nat} (hd : d < 3) : (lnE r d = 1 → sgLi r d = 1) ∧ (lnE r d = -1 → sgLi r d = 2) := by
  unfold lnE sgLi sgMid
  rcases ln3 hd with rfl | rfl | rfl <;> rcases (show r % 2 = 0 ∨ r % 2 = 1 by omega) with e | e <;> simp (decide := true) [e]
theorem lnD_st {w r d : Nat} (hd : d < 3) : lnD w r (3 * ((r / 2 % w : Nat) : Int) + 1 + ((r % 2 : Nat) : Int)) (3 * ((r / 2 / w : Nat) : Int) + 1 + ((r % 2 : Nat) : Int)) d = 1 := by
  unfold lnD lnE lnS lnIs
  rcases ln3 hd with rfl | rfl | rfl <;> rcases (show r % 2 = 0 ∨ r % 2 = 1 by omega) with e | e <;> simp (decide := true) only [e, if_true, if_false] <;> omega
theorem lnRel_st {w r : Nat} {p q : Int32} (hb : sgBd p q) (hz : ¬ (p = 0 ∧ q = 0)) : lnRel w (sgPa p q) (sgSt r p q) (3 * ((r / 2 % w : Nat) : Int) + 1 + ((r % 2 : Nat) : Int)) (3 * ((r / 2 / w : Nat) : Int) + 1 + ((r % 2 : Nat) : Int)) p.toInt q.toInt 0 1 := by
  have zz : (0 : Int32).toInt = 0 := rfl
  refine ⟨⟨?_, ?_, ?_⟩, ⟨fun a ha => ha, fun a b _ _ e => e⟩, fun a ha => ?_, by omega, by omega, fun k hk => ?_⟩
  · show lnD w r _ _ 0 + lnD w r _ _ 1 + lnD w r _ _ 2 = 3
    rw [lnD_st (d := 0) (by omega), lnD_st (d := 1) (by omega), lnD_st (d := 2) (by omega)]; rfl
  · unfold lnR lnE lnS
    rcases (show r % 2 = 0 ∨ r % 2 = 1 by omega) with e | e <;> (show _ = (0 : Int)) <;> simp (decide := true) only [sgSt, e, if_true, if_false] <;> omega
  · rintro ⟨h1, h2⟩
    apply hz
    unfold lnR lnS at h1 h2
    simp (decide := true) only [sgSt, if_true, if_false] at h1 h2
    refine ⟨Int32.toInt_inj.mp ?_, Int32.toInt_inj.mp ?_⟩
    · rw [zz]; rcases lnE_1 r 1 with e | e <;> (rw [e] at h2; omega)
    · rw [zz]; rcases lnE_1 r 0 with e | e <;> (rw [e] at h1; omega)
  · show lnM (sgPa p q a) (sgTi r p q a) (lnD w r _ _ a) (lnR r p.toInt q.toInt a)
    rw [lnD_st ha]
    have hp := sgPa_abs hb ha
    have hs := (sl_toInt hb ha).1
    have hl := sgLi_E (r := r) ha
    have hlt : sgSl p q a < 0 ↔ lnS p.toInt q.toInt a < 0 := by rw [Int32.lt_iff_toInt_lt, hs, zz]
    unfold lnM lnR sgTi
    by_cases c : lnS p.toInt q.toInt a < 0
    · rw [if_pos (hlt.mpr c)]
      have := hp.2 c
      rcases lnE_1 r a with e | e
      · rw [e, hl.1 e]; omega
      · rw [e, hl.2 e]; omega
    · rw [if_neg (fun q => c (hlt.mp q))]
      have := hp.1 (by omega)
      rcases lnE_1 r a with e | e
      · rw [e, hl.1 e]; omega
      · rw [e, hl.2 e]; omega
  · show 0 ≤ lnD w r _ _ k * 1 + _ * 0 ∧ (_ → 0 < lnD w r _ _ k * 1 + _ * 0)
    rw [lnD_st hk]
    omega
