/-! the whole: from the law's entry -/
theorem mh_arr {s : State} {A : Array Value} {ty : FieldType} (h : (Cond.arrayClass ty).before A s = true) : ∃ cA, ArrOfT s cA ty ∧ s.vm.findClass ("[" ++ ty.toString) = some cA := by
  obtain ⟨cA, kA, comp, h1, h2, h3⟩ := Cond.arrayClass_spec h
  exact ⟨cA, fun n z => ⟨fun k h => (by cases h), kA, h2, comp, h3⟩, h1⟩
theorem mh_arrO {s : State} {A : Array Value} {C : String} (h : (Cond.arrayOver (.object C)).before A s = true) : ∃ cA, ArrOfT s cA (.object C) ∧ va_RA s cA (.object C) := by
  obtain ⟨comp, cA, kA, h1, h2, h3, h4, h5⟩ := Cond.arrayOver_spec h
  exact ⟨cA, fun n z => ⟨fun k h => (by cases h), kA, h3, comp, h4⟩, kA, comp, h3, h4, h1, h5⟩
set_option maxHeartbeats 4000000 in
set_option maxRecDepth 100000 in
theorem mh_ground {s : State} {A : Array Value} (hts : ∀ w ∈ lw_tbl, w.before A s = true) : ∃ (D : va_G) (a : Nat → ClassId), ∀ (base : Nat) (x : Nat × Nat × (Nat → Int32)), mhG (D, a, base, x) s := by
  have htm : ∀ w ∈ mhT, w.before A s = true := fun w hw => hts w (mhT_in hw)
  have k0 := u_known (C := RX0) (T := TX0) (N := 3) (n := 3) htm inX0 (htm _ wd_82)
  obtain ⟨c0, s0, k0⟩ := k0
  have k1 := u_known (C := RX1) (T := TX1) (N := 18) (n := 18) htm inX1 (htm _ wd_202)
  obtain ⟨c1, s1, k1⟩ := k1
  have k2 := u_known (C := RX2) (T := TX2) (N := 5) (n := 5) htm inX2 (htm _ wd_368)
  obtain ⟨c2, s2, k2⟩ := k2
  have k3 := u_known (C := RX3) (T := TX3) (N := 3) (n := 3) htm inX3 (htm _ wd_96)
  obtain ⟨c3, s3, k3⟩ := k3
  have k4 := u_known (C := RX4) (T := TX4) (N := 11) (n := 11) htm inX4 (htm _ wd_39)
  obtain ⟨c4, s4, k4⟩ := k4
  have k5 := u_known (C := RX6) (T := TX6) (N := 13) (n := 13) htm inX6 (htm _ wd_23)
  obtain ⟨c5, s5, k5⟩ := k5
  obtain ⟨a0, e0, f0⟩ := mh_arr (htm _ wd_80)
  have o3 : (Cond.arrayOver (.object RX3)).before A s = true := hts _ (List.mem_of_getElem? (i := 31) (by decide +kernel))
  obtain ⟨a3, e3, f3⟩ := mh_arrO o3
  have o4 : (Cond.arrayOver (.object RX1)).before A s = true := hts _ (List.mem_of_getElem? (i := 33) (by decide +kernel))
  obtain ⟨a4, e4, f4⟩ := mh_arrO o4
  have o5 : (Cond.arrayOver (.object RX2)).before A s = true := hts _ (List.mem_of_getElem? (i := 35) (by decide +kernel))
  obtain ⟨a5, e5, f5⟩ := mh_arrO o5
  have o6 : (Cond.arrayOver (.object RX5)).before A s = true := hts _ (List.mem_of_getElem? (i := 37) (by decide +kernel))
  obtain ⟨a6, e6, f6⟩ := mh_arrO o6
  refine ⟨(fun k => match k with | 0 => c0 | 1 => c1 | 2 => c2 | 3 => c3 | 4 => c4 | _ => c5, fun k => match k with | 0 => s0 | 1 => s1 | 2 => s2 | 3 => s3 | 4 => s4 | _ => s5), fun k => match k with | 0 => a0 | 1 => a0 | 2 => a0 | 3 => a3 | 4 => a4 | 5 => a5 | _ => a6, fun base x => ⟨⟨fun k q hq => ?_, fun k q hq => ?_⟩, fun q hq => ?_, fun C hC => ?_⟩⟩
  · match k, hq with
    | 0, hq => cases hq; exact k0
    | 1, hq => cases hq; exact k1
    | 2, hq => cases hq; exact k2
    | 3, hq => cases hq; exact k3
    | 4, hq => cases hq; exact k4
    | 5, hq => cases hq; exact k5
    | k + 6, hq => simp [vwCl] at hq
  · match k, hq with
    | 0, hq => cases hq; exact ⟨e0, f0⟩
    | 1, hq => cases hq; exact ⟨e0, f0⟩
    | 2, hq => cases hq; exact ⟨e0, f0⟩
    | 3, hq => cases hq; exact ⟨e3, f3⟩
    | 4, hq => cases hq; exact ⟨e4, f4⟩
    | 5, hq => cases hq; exact ⟨e5, f5⟩
    | 6, hq => cases hq; exact ⟨e6, f6⟩
    | k + 7, hq => simp [mhTys] at hq
  · rcases (show q = _ ∨ q = _ ∨ q = _ ∨ q = _ ∨ q = _ by simpa [mhNest] using hq) with rfl | rfl | rfl | rfl | rfl
    · exact va_Nw.of rfl (hts _ (List.mem_of_getElem? (i := 40) (by decide +kernel)))
    · exact va_Nw.of rfl (hts _ (List.mem_of_getElem? (i := 83) (by decide +kernel)))
    · exact va_Nw.of rfl (hts _ (List.mem_of_getElem? (i := 97) (by decide +kernel)))
    · exact va_Nw.of rfl (hts _ (List.mem_of_getElem? (i := 207) (by decide +kernel)))
    · exact va_Nw.of rfl (hts _ (List.mem_of_getElem? (i := 290) (by decide +kernel)))
  · rcases (show C = RX3 ∨ C = RX1 ∨ C = RX2 ∨ C = RX5 by simpa [mhAOs] using hC) with rfl | rfl | rfl | rfl
    · exact o3
    · exact o4
    · exact o5
    · exact o6
