/-! how far, by the reference -/
def fr47 (I I' : mhI) : Prop := ∀ b y, b ≠ 47 → I' b y = I b y
theorem fr47.rf {I : mhI} : fr47 I I := fun _ _ _ => rfl
theorem fr47.tr {I I1 I2 : mhI} (h : fr47 I I1) (h2 : fr47 I1 I2) : fr47 I I2 := fun b y e => (h2 b y e).trans (h b y e)
theorem fr47.up {I I1 : mhI} {i v : Int32} (h : fr47 I I1) : fr47 I (mhUI I1 47 i v) := fun b y e => (mhUI_ne e).trans (h b y e)
theorem mhHm.f47 {I I' : mhI} {j w h : Nat} (hf : fr47 I I') (H : mhHm I j w h) : mhHm I' j w h := ⟨H.1, H.2.1, (hf _ _ (by decide)).trans H.2.2.1, (hf _ _ (by decide)).trans H.2.2.2⟩
theorem mhKn.f47 {I I' : mhI} {j w h : Nat} {kd : Nat → Int32} (hf : fr47 I I') (H : mhKn I j w h kd) : mhKn I' j w h kd := fun k hk => (hf _ _ (by decide)).trans (H k hk)
def fvR (w h : Nat) (kd : Nat → Int32) (D x : Nat) (y : Int32) : Prop := (∃ e, e < D ∧ y = nI (e + 1) ∧ wy w h kd (e + 1) x ∧ ¬ wy w h kd e x) ∨ (y = -9 ∧ ¬ wy w h kd D x)
theorem gB_ne {w h r e : Nat} (g : gOk w h) (hr : r < gRooms w h) (he : e < 3) (hb : ¬ gB w h r e = -9) : (gB w h r e).toNatClampNeg ≠ r := by
  have t := gE2 g hr he
  unfold gE2P at t
  rw [if_neg hb] at t
  obtain ⟨-, -, -, t4⟩ := t
  intro e0
  have to : gTo w e ≠ 0 := by unfold gTo; split <;> (try split) <;> omega
  split at t4 <;> (rw [e0] at t4; omega)
theorem fvR_iff {w h : Nat} {kd : Nat → Int32} (g : gOk w h) {D D' x e : Nat} {y : Int32} (hx : x < gRooms w h) (he : e < 3) (hn : ¬ wy w h kd D x) (hk : kd (gSide w h x e) = 2) (hb : ¬ gB w h x e = -9) (hD : D' = D ∨ D' = D + 1) (hD9 : D < 1000) (hy : fvR w h kd D' (gB w h x e).toNatClampNeg y) : (y = nI D ∧ 1 ≤ D) ↔ wy w h kd D (gB w h x e).toNatClampNeg := by
  have up : ∀ d, d + 1 ≤ D → wy w h kd d (gB w h x e).toNatClampNeg → False := fun d hd z => hn (wy_le (show wy w h kd (d + 1) x from ⟨e, he, hk, Or.inr z⟩) hd)
  rcases hy with ⟨a, h1, h2, h3, h4⟩ | ⟨h1, h2⟩
  · constructor
    · rintro ⟨e1, e2⟩
      rw [h2, nI_eq (by omega) (by omega)] at e1
      rw [← e1]; exact h3
    · intro z
      have hD1 : 1 ≤ D := by
        rcases Nat.lt_or_ge D 1 with q | q
        · rw [show D = 0 by omega] at z; exact z.elim
        · exact q
      have : a + 1 = D := by
        rcases Nat.lt_trichotomy (a + 1) D with q | q | q
        · exact (up (a + 1) q h3).elim
        · exact q
        · exact absurd (wy_le z (show D ≤ a by omega)) h4
      rw [h2, this]
      exact ⟨rfl, hD1⟩
  · constructor
    · rintro ⟨e1, e2⟩
      rw [h1] at e1
      exact absurd e1.symm (mh_n9 (by omega))
    · intro z
      exact absurd (wy_le z (show D ≤ D' by omega)) h2
/-- one side of a room leads on -/
def wit (w h : Nat) (kd : Nat → Int32) (D x e : Nat) : Prop := kd (gSide w h x e) = 2 ∧ (gB w h x e = -9 ∨ wy w h kd D (gB w h x e).toNatClampNeg)
set_option maxHeartbeats 4000000 in
set_option maxRecDepth 100000 in
theorem lp_X7_farsA {l : Launch} {K : mhX} {kc ks : Nat} {Φ : mhQ} {S : List mhS} {J : mhJ} {P : mhP} {F : mhF} {I0 : mhI} (h7 : mhKX7 S) {j : Nat} {o3 o4 o5 o6 : Option Value} (hΦ : ∀ I, fr47 I0 I → (∀ x, x < 24 → I 47 (nI x) = -9) → mhV l K mX7_layFars kc ks Φ 22 [some (.ref 21), some (.int (nI j)), some (.int (nI 24)), o3, o4, o5, o6] [] S F I J P) : ∀ (m i : Nat) (I : mhI), i + m = 24 → fr47 I0 I → (∀ x, x < i → I 47 (nI x) = -9) → mhV l K mX7_layFars kc ks Φ 2 [some (.ref 21), some (.int (nI j)), some (.int (nI i)), o3, o4, o5, o6] [] S F I J P := by
  intro m
  induction m with
  | zero =>
    intro i I hi hf hx
    obtain rfl : i = 24 := by omega
    refine mh_iload_2 dX7_layFars_2 (q := 3) rfl ?_
    refine mh_bipush (v := 24) dX7_layFars_3 (q := 5) rfl (by decide) ?_
    refine mh_icmp_ge dX7_layFars_5 (tgt := 22) (q := 8) rfl rfl (fun _ => ?_) (fun hh => absurd (show (24 : Int32) ≤ nI 24 by decide) hh)
    exact hΦ I hf hx
  | succ m ih =>
    intro i I hi hf hx
    refine mh_iload_2 dX7_layFars_2 (q := 3) rfl ?_
    refine mh_bipush (v := 24) dX7_layFars_3 (q := 5) rfl (by decide) ?_
    refine mh_icmp_ge dX7_layFars_5 (tgt := 22) (q := 8) rfl rfl (fun hh => absurd hh (show ¬ (24 : Int32) ≤ nI i from nI_ge (b := 24) (by omega) (by decide))) (fun _ => ?_)
    refine mh_aload_0 dX7_layFars_8 (q := 9) rfl ?_
    refine mh_getR fl_X7_86 dX7_layFars_9 (q := 12) rfl (shX7_0 h7) rfl ?_
    refine mh_iload_2 dX7_layFars_12 (q := 13) rfl ?_
    refine mh_bipush (v := (-9)) dX7_layFars_13 (q := 15) rfl (by decide) ?_
    refine mh_iast dX7_layFars_15 (q := 16) rfl (shX7_26 h7) (by decide) (vp_in_nI (by omega) (by decide)) ?_
    refine mh_iinc_2 (v := 1) dX7_layFars_16 (q := 19) rfl (by decide) ?_
    refine mh_goto dX7_layFars_19 (tgt := 2) rfl ?_
    rw [nI_1]
    refine ih (i + 1) _ (by omega) hf.up (fun x hx2 => ?_)
    rw [mhUI_at (by omega) (by omega)]
    by_cases c : x = i
    · rw [if_pos ⟨rfl, c⟩]
    · rw [if_neg (fun z => c z.2)]
      exact hx x (by omega)
set_option maxHeartbeats 4000000 in
set_option maxRecDepth 100000 in
theorem lp_X7_farsE {l : Launch} {K : mhX} {kc ks : Nat} {Φ : mhQ} {S : List mhS} {J : mhJ} {P : mhP} {F : mhF} {I0 : mhI} {j w h D x : Nat} {kd : Nat → Int32} (h7 : mhKX7 S) (hm : mhHm I0 j w h) (hk : mhKn I0 j w h kd) (hx : x < gRooms w h) (hD : D < 1000) (hn : ¬ wy w h kd D x) {I1 : mhI} (hq : ∀ q, q < gRooms w h → q ≠ x → ∃ D', (D' = D ∨ D' = D + 1) ∧ fvR w h kd D' q (I1 47 (nI q))) {v0 : Int32} (hΦ : ∀ (v : Int32) (I : mhI) (o6 : Option Value), fr47 I0 I → ((I 47 (nI x) = nI (D + 1) ∧ v = 1 ∧ wy w h kd (D + 1) x) ∨ (I 47 (nI x) = -9 ∧ v = v0 ∧ ∀ z, z < 3 → ¬ wit w h kd D x z)) → (∀ y, y < 24 → y ≠ x → I 47 (nI y) = I1 47 (nI y)) → mhV l K mX7_layFars kc ks Φ 155 [some (.ref 21), some (.int (nI j)), some (.int v), some (.int (nI (D + 1))), some (.int (nI x)), some (.int (nI 3)), o6] [] S F I J P) : ∀ (m e : Nat) (v : Int32) (I : mhI) (o6 : Option Value), e + m = 3 → fr47 I0 I → ((I 47 (nI x) = nI (D + 1) ∧ v = 1 ∧ wy w h kd (D + 1) x) ∨ (I 47 (nI x) = -9 ∧ v = v0 ∧ ∀ z, z < e → ¬ wit w h kd D x z)) → (∀ y, y < 24 → y ≠ x → I 47 (nI y) = I1 47 (nI y)) → mhV l K mX7_layFars kc ks Φ 63 [some (.ref 21), some (.int (nI j)), some (.int v), some (.int (nI (D + 1))), some (.int (nI x)), some (.int (nI e)), o6] [] S F I J P := by
  have hbd := gBd hm.2.1
  intro m
  induction m with
  | zero =>
    intro e v I o6 hi hf hs ho
    obtain rfl : e = 3 := by omega
    refine mh_iload_5 dX7_layFars_63 (q := 65) rfl ?_
    refine mh_iconst_3 dX7_layFars_65 (q := 66) rfl ?_
    refine mh_icmp_ge dX7_layFars_66 (tgt := 155) (q := 69) rfl rfl (fun _ => ?_) (fun hh => absurd (show (3 : Int32) ≤ nI 3 by decide) hh)
    exact hΦ v I _ hf hs ho
  | succ m ih =>
    intro e v I o6 hi hf hs ho
    have he : e < 3 := by omega
    have t1 := (gT1 hm.2.1 hx he).2.1
    have hj := hm.1
    have h9 := ih (e + 1)
    refine mh_iload_5 dX7_layFars_63 (q := 65) rfl ?_
    refine mh_iconst_3 dX7_layFars_65 (q := 66) rfl ?_
    refine mh_icmp_ge dX7_layFars_66 (tgt := 155) (q := 69) rfl rfl (fun hh => absurd hh (show ¬ (3 : Int32) ≤ nI e from nI_ge (b := 3) (by omega) (by decide))) (fun _ => ?_)
    refine mh_aload_0 dX7_layFars_69 (q := 70) rfl ?_
    refine mh_getR fl_X7_25 dX7_layFars_70 (q := 73) rfl (shX7_0 h7) rfl ?_
    refine mh_bipush (v := 50) dX7_layFars_73 (q := 75) rfl (by decide) ?_
    refine mh_iload_1 dX7_layFars_75 (q := 76) rfl ?_
    refine mh_imul dX7_layFars_76 (q := 77) rfl ?_
    refine mh_aload_0 dX7_layFars_77 (q := 78) rfl ?_
    refine mh_iload_1 dX7_layFars_78 (q := 79) rfl ?_
    refine mh_iload_4 dX7_layFars_79 (q := 81) rfl ?_
    refine mh_iload_5 dX7_layFars_81 (q := 83) rfl ?_
    refine mh_callV3 ca_X7_layFars_83 (shX7_0 h7) (q := 86) rfl (by simp [Value.category]) ⟨Nat.zero_le _, Nat.zero_le _⟩ ?_
    refine sp_X7_sideOf h7 (hm.f47 hf) hx he ?_
    refine mh_iadd dX7_layFars_86 (q := 87) rfl ?_
    refine mh_iald dX7_layFars_87 (q := 88) rfl (shX7_6 h7) (by rw [mh_e50]; exact vp_in_nI (by omega) (by decide)) ?_
    rw [mh_e50, hk.f47 hf _ t1]
    refine mh_iconst_2 dX7_layFars_88 (q := 89) rfl ?_
    refine mh_icmp_eq dX7_layFars_89 (tgt := 95) (q := 92) rfl rfl (fun c89 => ?_) (fun c89 => ?_)
    · skip
      refine mh_aload_0 dX7_layFars_95 (q := 96) rfl ?_
      refine mh_iload_1 dX7_layFars_96 (q := 97) rfl ?_
      refine mh_iload_4 dX7_layFars_97 (q := 99) rfl ?_
      refine mh_iload_5 dX7_layFars_99 (q := 101) rfl ?_
      refine mh_callV3 ca_X7_layFars_101 (shX7_0 h7) (q := 104) rfl (by simp [Value.category]) ⟨Nat.zero_le _, Nat.zero_le _⟩ ?_
      refine sp_X7_behind h7 (hm.f47 hf) hx he ?_
      refine mh_istore_6 dX7_layFars_104 (q := 106) rfl ?_
      refine mh_iload_6 dX7_layFars_106 (q := 108) rfl ?_
      refine mh_bipush (v := (-9)) dX7_layFars_108 (q := 110) rfl (by decide) ?_
      refine mh_icmp_ne dX7_layFars_110 (tgt := 121) (q := 113) rfl rfl (fun c110 => ?_) (fun c110 => ?_)
      · skip
        have gn := gB_nat hm.2.1 hx he c110
        have gne := gB_ne hm.2.1 hx he c110
        obtain ⟨D', hD', hfv⟩ := hq _ gn.1 gne
        have hiff := fvR_iff hm.2.1 hx he hn c89 c110 hD' hD hfv
        rw [gn.2]
        refine mh_aload_0 dX7_layFars_121 (q := 122) rfl ?_
        refine mh_getR fl_X7_86 dX7_layFars_122 (q := 125) rfl (shX7_0 h7) rfl ?_
        refine mh_iload_6 dX7_layFars_125 (q := 127) rfl ?_
        refine mh_iald dX7_layFars_127 (q := 128) rfl (shX7_26 h7) (vp_in_nI (by omega) (by decide)) ?_
        rw [ho _ (by omega) gne]
        refine mh_iload_3 dX7_layFars_128 (q := 129) rfl ?_
        refine mh_iconst_1 dX7_layFars_129 (q := 130) rfl ?_
        refine mh_isub dX7_layFars_130 (q := 131) rfl ?_
        rw [show nI (D + 1) - 1 = nI D from by rw [← nI_1]; grind]
        refine mh_icmp_ne dX7_layFars_131 (tgt := 149) (q := 134) rfl rfl (fun c131 => ?_) (fun c131 => ?_)
        · skip
          refine mh_iinc_5 (v := 1) dX7_layFars_149 (q := 152) rfl (by decide) ?_
          refine mh_goto dX7_layFars_152 (tgt := 63) rfl ?_
          rw [nI_1]
          refine h9 v I _ (by omega) hf (hs.imp id (fun z => ⟨z.1, z.2.1, fun y hy => ?_⟩)) ho
          rcases Nat.lt_or_ge y e with q | q
          · exact z.2.2 y q
          · obtain rfl : y = e := by omega
            exact fun z2 => c131 (hiff.mpr (z2.2.resolve_left c110)).1
        · skip
          refine mh_iload_3 dX7_layFars_134 (q := 135) rfl ?_
          refine mh_iconst_1 dX7_layFars_135 (q := 136) rfl ?_
          refine mh_icmp_le dX7_layFars_136 (tgt := 149) (q := 139) rfl rfl (fun c136 => ?_) (fun c136 => ?_)
          · skip
            refine mh_iinc_5 (v := 1) dX7_layFars_149 (q := 152) rfl (by decide) ?_
            refine mh_goto dX7_layFars_152 (tgt := 63) rfl ?_
            rw [nI_1]
            refine h9 v I _ (by omega) hf (hs.imp id (fun z => ⟨z.1, z.2.1, fun y hy => ?_⟩)) ho
            rcases Nat.lt_or_ge y e with q | q
            · exact z.2.2 y q
            · obtain rfl : y = e := by omega
              exact fun z2 => absurd (hiff.mpr (z2.2.resolve_left c110)).2 (by
                rw [show (1 : Int32) = nI 1 from rfl, nI_leI (by omega) (by decide)] at c136
                omega)
          · skip
            refine mh_aload_0 dX7_layFars_139 (q := 140) rfl ?_
            refine mh_getR fl_X7_86 dX7_layFars_140 (q := 143) rfl (shX7_0 h7) rfl ?_
            refine mh_iload_4 dX7_layFars_143 (q := 145) rfl ?_
            refine mh_iload_3 dX7_layFars_145 (q := 146) rfl ?_
            refine mh_iast dX7_layFars_146 (q := 147) rfl (shX7_26 h7) (by decide) (vp_in_nI (by omega) (by decide)) ?_
            refine mh_iconst_1 dX7_layFars_147 (q := 148) rfl ?_
            refine mh_istore_2 dX7_layFars_148 (q := 149) rfl ?_
            refine mh_iinc_5 (v := 1) dX7_layFars_149 (q := 152) rfl (by decide) ?_
            refine mh_goto dX7_layFars_152 (tgt := 63) rfl ?_
            rw [nI_1]
            refine h9 _ _ _ (by omega) hf.up (Or.inl ⟨?_, rfl, ⟨e, he, c89, Or.inr (hiff.mp ⟨c131, by
              rw [show (1 : Int32) = nI 1 from rfl, nI_leI (by omega) (by decide)] at c136
              omega⟩)⟩⟩) (fun y hy hyx => ?_)
            · exact mh_at3
            · rw [mhUI_at (by omega) (by omega), if_neg (fun z => hyx z.2)]
              exact ho y hy hyx
      · skip
        refine mh_iload_3 dX7_layFars_113 (q := 114) rfl ?_
        refine mh_iconst_1 dX7_layFars_114 (q := 115) rfl ?_
        refine mh_icmp_ne dX7_layFars_115 (tgt := 149) (q := 118) rfl rfl (fun c115 => ?_) (fun c115 => ?_)
        · skip
          refine mh_iinc_5 (v := 1) dX7_layFars_149 (q := 152) rfl (by decide) ?_
          refine mh_goto dX7_layFars_152 (tgt := 63) rfl ?_
          rw [nI_1]
          exfalso
          have hD1 : 1 ≤ D := by
            rcases Nat.lt_or_ge D 1 with q | q
            · exact absurd (show nI (D + 1) = 1 by rw [show D = 0 by omega]; rfl) c115
            · exact q
          exact hn (wy_le (show wy w h kd (0 + 1) x from ⟨e, he, c89, Or.inl c110⟩) hD1)
        · skip
          refine mh_goto dX7_layFars_118 (tgt := 139) rfl ?_
          refine mh_aload_0 dX7_layFars_139 (q := 140) rfl ?_
          refine mh_getR fl_X7_86 dX7_layFars_140 (q := 143) rfl (shX7_0 h7) rfl ?_
          refine mh_iload_4 dX7_layFars_143 (q := 145) rfl ?_
          refine mh_iload_3 dX7_layFars_145 (q := 146) rfl ?_
          refine mh_iast dX7_layFars_146 (q := 147) rfl (shX7_26 h7) (by decide) (vp_in_nI (by omega) (by decide)) ?_
          refine mh_iconst_1 dX7_layFars_147 (q := 148) rfl ?_
          refine mh_istore_2 dX7_layFars_148 (q := 149) rfl ?_
          refine mh_iinc_5 (v := 1) dX7_layFars_149 (q := 152) rfl (by decide) ?_
          refine mh_goto dX7_layFars_152 (tgt := 63) rfl ?_
          rw [nI_1]
          refine h9 _ _ _ (by omega) hf.up (Or.inl ⟨?_, rfl, ⟨e, he, c89, Or.inl c110⟩⟩) (fun y hy hyx => ?_)
          · exact mh_at3
          · rw [mhUI_at (by omega) (by omega), if_neg (fun z => hyx z.2)]
            exact ho y hy hyx
    · skip
      refine mh_goto dX7_layFars_92 (tgt := 149) rfl ?_
      refine mh_iinc_5 (v := 1) dX7_layFars_149 (q := 152) rfl (by decide) ?_
      refine mh_goto dX7_layFars_152 (tgt := 63) rfl ?_
      rw [nI_1]
      refine h9 v I _ (by omega) hf (hs.imp id (fun z => ⟨z.1, z.2.1, fun y hy => ?_⟩)) ho
      rcases Nat.lt_or_ge y e with q | q
      · exact z.2.2 y q
      · obtain rfl : y = e := by omega
        exact fun z2 => c89 z2.1
set_option maxHeartbeats 4000000 in
set_option maxRecDepth 100000 in
theorem lp_X7_farsX {l : Launch} {K : mhX} {kc ks : Nat} {Φ : mhQ} {S : List mhS} {J : mhJ} {P : mhP} {F : mhF} {I0 : mhI} {j w h D : Nat} {kd : Nat → Int32} (h7 : mhKX7 S) (hm : mhHm I0 j w h) (hk : mhKn I0 j w h kd) (hD : D < 1000) (hΦ : ∀ (v : Int32) (I : mhI) (o5 o6 : Option Value), fr47 I0 I → ((v = 1 ∧ ∃ y, y < gRooms w h ∧ wy w h kd (D + 1) y ∧ ¬ wy w h kd D y) ∨ (v = 0 ∧ ∀ y, y < gRooms w h → wy w h kd (D + 1) y → wy w h kd D y)) → (∀ y, y < gRooms w h → fvR w h kd (D + 1) y (I 47 (nI y))) → mhV l K mX7_layFars kc ks Φ 161 [some (.ref 21), some (.int (nI j)), some (.int v), some (.int (nI (D + 1))), some (.int (nI (gRooms w h))), o5, o6] [] S F I J P) : ∀ (m x : Nat) (v : Int32) (I : mhI) (o5 o6 : Option Value), x + m = gRooms w h → fr47 I0 I → ((v = 1 ∧ ∃ y, y < x ∧ wy w h kd (D + 1) y ∧ ¬ wy w h kd D y) ∨ (v = 0 ∧ ∀ y, y < x → wy w h kd (D + 1) y → wy w h kd D y)) → (∀ y, y < gRooms w h → fvR w h kd (if y < x then D + 1 else D) y (I 47 (nI y))) → mhV l K mX7_layFars kc ks Φ 35 [some (.ref 21), some (.int (nI j)), some (.int v), some (.int (nI (D + 1))), some (.int (nI x)), o5, o6] [] S F I J P := by
  have hbd := gBd hm.2.1
  intro m
  induction m with
  | zero =>
    intro x v I o5 o6 hi hf hv ha
    obtain rfl : x = gRooms w h := by omega
    refine mh_iload_4 dX7_layFars_35 (q := 37) rfl ?_
    refine mh_aload_0 dX7_layFars_37 (q := 38) rfl ?_
    refine mh_iload_1 dX7_layFars_38 (q := 39) rfl ?_
    refine mh_callV1 ca_X7_layFars_39 (shX7_0 h7) (q := 42) rfl (by simp [Value.category]) ⟨Nat.zero_le _, Nat.zero_le _⟩ ?_
    refine sp_X7_rooms h7 (hm.f47 hf) ?_
    refine mh_icmp_ge dX7_layFars_42 (tgt := 161) (q := 45) rfl rfl (fun _ => ?_) (fun hh => absurd (nI_le (Nat.le_refl _) (by omega)) hh)
    exact hΦ v I _ _ hf hv (fun y hy => by have := ha y hy; rw [if_pos hy] at this; exact this)
  | succ m ih =>
    intro x v I o5 o6 hi hf hv ha
    have hx : x < gRooms w h := by omega
    have hax := ha x hx
    rw [if_neg (Nat.lt_irrefl x)] at hax
    have h9 := ih (x + 1)
    refine mh_iload_4 dX7_layFars_35 (q := 37) rfl ?_
    refine mh_aload_0 dX7_layFars_37 (q := 38) rfl ?_
    refine mh_iload_1 dX7_layFars_38 (q := 39) rfl ?_
    refine mh_callV1 ca_X7_layFars_39 (shX7_0 h7) (q := 42) rfl (by simp [Value.category]) ⟨Nat.zero_le _, Nat.zero_le _⟩ ?_
    refine sp_X7_rooms h7 (hm.f47 hf) ?_
    refine mh_icmp_ge dX7_layFars_42 (tgt := 161) (q := 45) rfl rfl (fun hh => absurd hh (nI_ge (by omega) (by omega))) (fun _ => ?_)
    refine mh_aload_0 dX7_layFars_45 (q := 46) rfl ?_
    refine mh_getR fl_X7_86 dX7_layFars_46 (q := 49) rfl (shX7_0 h7) rfl ?_
    refine mh_iload_4 dX7_layFars_49 (q := 51) rfl ?_
    refine mh_iald dX7_layFars_51 (q := 52) rfl (shX7_26 h7) (vp_in_nI (by omega) (by decide)) ?_
    refine mh_bipush (v := (-9)) dX7_layFars_52 (q := 54) rfl (by decide) ?_
    refine mh_icmp_eq dX7_layFars_54 (tgt := 60) (q := 57) rfl rfl (fun c54 => ?_) (fun c54 => ?_)
    · skip
      refine mh_iconst_0 dX7_layFars_60 (q := 61) rfl ?_
      refine mh_istore_5 dX7_layFars_61 (q := 63) rfl ?_
      have hnx : ¬ wy w h kd D x := by
        rcases hax with ⟨e, z1, z2, z3, z4⟩ | ⟨z1, z2⟩
        · rw [c54] at z2; exact absurd z2.symm (mh_n9 (by omega))
        · exact z2
      refine lp_X7_farsE h7 hm hk hx hD hnx (I1 := I) (v0 := v) (fun q hq hqx => ?_) (fun v2 I2 o62 hf2 hs2 ho2 => ?_) 3 0 v I _ rfl hf (Or.inr ⟨c54, rfl, fun z hz => absurd hz (Nat.not_lt_zero z)⟩) (fun _ _ _ => rfl)
      · have := ha q hq
        by_cases c2 : q < x
        · rw [if_pos c2] at this; exact ⟨D + 1, Or.inr rfl, this⟩
        · rw [if_neg c2] at this; exact ⟨D, Or.inl rfl, this⟩
      refine mh_iinc_4 (v := 1) dX7_layFars_155 (q := 158) rfl (by decide) ?_
      refine mh_goto dX7_layFars_158 (tgt := 35) rfl ?_
      rw [nI_1]
      rcases hs2 with ⟨a1, a2, a3⟩ | ⟨a1, a2, a3⟩
      · refine h9 _ _ _ _ (by omega) hf2 (Or.inl ⟨a2, x, by omega, a3, hnx⟩) (fun y hy => ?_)
        by_cases c : y = x
        · subst c
          rw [if_pos (by omega), a1]
          exact Or.inl ⟨D, by omega, rfl, a3, hnx⟩
        · rw [ho2 y (by omega) c]
          have := ha y hy
          by_cases c2 : y < x
          · rw [if_pos c2] at this; rw [if_pos (by omega)]; exact this
          · rw [if_neg c2] at this; rw [if_neg (by omega)]; exact this
      · have nw : ¬ wy w h kd (D + 1) x := fun ⟨e, he, z1, z2⟩ => a3 e he ⟨z1, z2⟩
        rw [a2]
        refine h9 _ _ _ _ (by omega) hf2 (hv.imp (fun z => ⟨z.1, z.2.imp (fun y q => ⟨by omega, q.2⟩)⟩) (fun z => ⟨z.1, fun y hy q => ?_⟩)) (fun y hy => ?_)
        · rcases Nat.lt_or_ge y x with u | u
          · exact z.2 y u q
          · rw [show y = x by omega] at q; exact absurd q nw
        · by_cases c : y = x
          · subst c
            rw [if_pos (by omega), a1]
            exact Or.inr ⟨rfl, nw⟩
          · rw [ho2 y (by omega) c]
            have := ha y hy
            by_cases c2 : y < x
            · rw [if_pos c2] at this; rw [if_pos (by omega)]; exact this
            · rw [if_neg c2] at this; rw [if_neg (by omega)]; exact this
    · skip
      refine mh_goto dX7_layFars_57 (tgt := 155) rfl ?_
      refine mh_iinc_4 (v := 1) dX7_layFars_155 (q := 158) rfl (by decide) ?_
      refine mh_goto dX7_layFars_158 (tgt := 35) rfl ?_
      rw [nI_1]
      have hw : wy w h kd D x := by
        rcases hax with ⟨e, z1, z2, z3, z4⟩ | ⟨z1, z2⟩
        · exact wy_le z3 z1
        · exact absurd z1 c54
      refine h9 _ _ _ _ (by omega) hf (hv.imp (fun z => ⟨z.1, z.2.imp (fun y q => ⟨by omega, q.2⟩)⟩) (fun z => ⟨z.1, fun y hy q => ?_⟩)) (fun y hy => ?_)
      · rcases Nat.lt_or_ge y x with u | u
        · exact z.2 y u q
        · rw [show y = x by omega]; exact hw
      · have := ha y hy
        by_cases c2 : y < x
        · rw [if_pos c2] at this; rw [if_pos (by omega)]; exact this
        · rw [if_neg c2] at this
          by_cases c3 : y < x + 1
          · rw [if_pos c3]
            obtain rfl : y = x := by omega
            rcases this with ⟨e, z1, z2, z3, z4⟩ | ⟨z1, z2⟩
            · exact Or.inl ⟨e, by omega, z2, z3, z4⟩
            · exact absurd hw z2
          · rw [if_neg c3]; exact this
set_option maxHeartbeats 4000000 in
set_option maxRecDepth 100000 in
theorem lp_X7_farsD {l : Launch} {K : mhX} {kc ks : Nat} {Φ : mhQ} {S : List mhS} {J : mhJ} {P : mhP} {F : mhF} {I0 : mhI} {j w h : Nat} {kd : Nat → Int32} (h7 : mhKX7 S) (hm : mhHm I0 j w h) (hk : mhKn I0 j w h kd) (hΦ : ∀ I : mhI, fr47 I0 I → (∀ y, y < gRooms w h → faA w h kd y (I 47 (nI y))) → Φ none S F I J P) : ∀ (m D : Nat) (v : Int32) (I : mhI) (o4 o5 o6 : Option Value), D + m = gRooms w h + 1 → fr47 I0 I → ((v = 1 ∧ D ≤ wyC (wy w h kd D) (gRooms w h)) ∨ (v = 0 ∧ 1 ≤ D ∧ D ≤ gRooms w h + 1 ∧ ∀ y, y < gRooms w h → wy w h kd D y → wy w h kd (D - 1) y)) → (∀ y, y < gRooms w h → fvR w h kd D y (I 47 (nI y))) → mhV l K mX7_layFars kc ks Φ 26 [some (.ref 21), some (.int (nI j)), some (.int v), some (.int (nI (D + 1))), o4, o5, o6] [] S F I J P := by
  have hbd := gBd hm.2.1
  intro m
  induction m with
  | zero =>
    intro D v I o4 o5 o6 hi hf hv ha
    have c27 : v = 0 := by
      rcases hv with ⟨_, z⟩ | z
      · have := wyC_le (f := wy w h kd D) (n := gRooms w h)
        omega
      · exact z.1
    refine mh_iload_2 dX7_layFars_26 (q := 27) rfl ?_
    refine mh_if_eq dX7_layFars_27 (tgt := 167) (q := 30) rfl rfl (fun _ => ?_) (fun hh => absurd c27 hh)
    refine mh_return dX7_layFars_167 rfl ?_
    rcases hv with ⟨z, _⟩ | ⟨_, hD1, hDR, hst⟩
    · rw [c27] at z; exact absurd z (by decide)
    refine hΦ I hf (fun y hy => ?_)
    rcases ha y hy with ⟨e, z1, z2, z3, z4⟩ | ⟨z1, z2⟩
    · exact Or.inl ⟨e, by omega, z2, z3, z4⟩
    · refine Or.inr ⟨z1, fun d z => z2 ?_⟩
      rcases Nat.lt_or_ge d D with q | q
      · exact wy_le z (by omega)
      · have hst2 : ∀ r, r < gRooms w h → wy w h kd (D - 1 + 1) r → wy w h kd (D - 1) r := by rw [show D - 1 + 1 = D by omega]; exact hst
        have z5 : wy w h kd (D - 1 + (d - (D - 1))) y := by rw [show D - 1 + (d - (D - 1)) = d by omega]; exact z
        exact wy_le (wy_stab hm.2.1 hst2 _ y hy z5) (by omega)
  | succ m ih =>
    intro D v I o4 o5 o6 hi hf hv ha
    have h9 := ih (D + 1)
    refine mh_iload_2 dX7_layFars_26 (q := 27) rfl ?_
    refine mh_if_eq dX7_layFars_27 (tgt := 167) (q := 30) rfl rfl (fun c27 => ?_) (fun c27 => ?_)
    · skip
      refine mh_return dX7_layFars_167 rfl ?_
      rcases hv with ⟨z, _⟩ | ⟨_, hD1, hDR, hst⟩
      · rw [c27] at z; exact absurd z (by decide)
      refine hΦ I hf (fun y hy => ?_)
      rcases ha y hy with ⟨e, z1, z2, z3, z4⟩ | ⟨z1, z2⟩
      · exact Or.inl ⟨e, by omega, z2, z3, z4⟩
      · refine Or.inr ⟨z1, fun d z => z2 ?_⟩
        rcases Nat.lt_or_ge d D with q | q
        · exact wy_le z (by omega)
        · have hst2 : ∀ r, r < gRooms w h → wy w h kd (D - 1 + 1) r → wy w h kd (D - 1) r := by rw [show D - 1 + 1 = D by omega]; exact hst
          have z5 : wy w h kd (D - 1 + (d - (D - 1))) y := by rw [show D - 1 + (d - (D - 1)) = d by omega]; exact z
          exact wy_le (wy_stab hm.2.1 hst2 _ y hy z5) (by omega)
    · skip
      refine mh_iconst_0 dX7_layFars_30 (q := 31) rfl ?_
      refine mh_istore_2 dX7_layFars_31 (q := 32) rfl ?_
      refine mh_iconst_0 dX7_layFars_32 (q := 33) rfl ?_
      refine mh_istore_4 dX7_layFars_33 (q := 35) rfl ?_
      refine lp_X7_farsX h7 hm hk (D := D) (by omega) (fun v2 I2 o52 o62 hf2 hv2 ha2 => ?_) (gRooms w h) 0 _ I _ _ (Nat.zero_add _) hf (Or.inr ⟨rfl, fun y hy => absurd hy (Nat.not_lt_zero y)⟩) (fun y hy => by rw [if_neg (Nat.not_lt_zero y)]; exact ha y hy)
      refine mh_iinc_3 (v := 1) dX7_layFars_161 (q := 164) rfl (by decide) ?_
      refine mh_goto dX7_layFars_164 (tgt := 26) rfl ?_
      rw [nI_1]
      refine h9 _ _ _ _ _ (by omega) hf2 ?_ ha2
      rcases hv2 with ⟨z1, y, z2, z3, z4⟩ | ⟨z1, z2⟩
      · refine Or.inl ⟨z1, ?_⟩
        rcases hv with ⟨_, q⟩ | q
        · have := (wyC_mono (f := wy w h kd D) (f' := wy w h kd (D + 1)) (n := gRooms w h) (fun r _ z => wy_mono z)).2 y z2 z3 z4
          omega
        · exact absurd q.1 c27
      · exact Or.inr ⟨z1, by omega, by omega, z2⟩
set_option maxHeartbeats 4000000 in
set_option maxRecDepth 100000 in
theorem sp_X7_layFars {l : Launch} {K : mhX} {Φ : mhQ} {S : List mhS} {F : mhF} {I : mhI} {J : mhJ} {P : mhP} (h7 : mhKX7 S) {j w h : Nat} {kd : Nat → Int32} (hm : mhHm I j w h) (hk : mhKn I j w h kd) (hΦ : ∀ I2 : mhI, fr47 I I2 → (∀ y, y < gRooms w h → faA w h kd y (I2 47 (nI y))) → Φ none S F I2 J P) : mhOk l K mX7_layFars [.ref 21, .int (nI j)] S F I J P Φ := by
  refine mhOk.of (by decide) (by decide) rfl (Nat.le_of_ble_eq_true rfl) ?_
  refine mh_iconst_0 dX7_layFars_0 (q := 1) rfl ?_
  refine mh_istore_2 dX7_layFars_1 (q := 2) rfl ?_
  have hbd := gBd hm.2.1
  refine lp_X7_farsA (kc := mX7_layFars.2.2.2.2.cells) (ks := mX7_layFars.2.2.2.2.slots) h7 (fun I1 hf1 hx1 => ?_) 24 0 I rfl fr47.rf (fun x hx => absurd hx (Nat.not_lt_zero x))
  refine mh_iconst_1 dX7_layFars_22 (q := 23) rfl ?_
  refine mh_istore_2 dX7_layFars_23 (q := 24) rfl ?_
  refine mh_iconst_1 dX7_layFars_24 (q := 25) rfl ?_
  refine mh_istore_3 dX7_layFars_25 (q := 26) rfl ?_
  exact lp_X7_farsD (kc := mX7_layFars.2.2.2.2.cells) (ks := mX7_layFars.2.2.2.2.slots) h7 hm hk hΦ (gRooms w h + 1) 0 1 I1 _ _ _ (Nat.zero_add _) hf1 (Or.inl ⟨rfl, Nat.zero_le _⟩) (fun y hy => Or.inr ⟨hx1 y (by omega), id⟩)
set_option maxHeartbeats 4000000 in
set_option maxRecDepth 100000 in
theorem lp_X7_shutOf {l : Launch} {K : mhX} {kc ks : Nat} {Φ : mhQ} {S : List mhS} {F : mhF} {I : mhI} {J : mhJ} {P : mhP} (h7 : mhKX7 S) {j w h : Nat} {kd : Nat → Int32} (hm : mhHm I j w h) (ha : ∀ y, y < gRooms w h → faA w h kd y (I 47 (nI y))) (hΦ : ∀ z, shA w h kd z → Φ (some (.int z)) S F I J P) : ∀ (m r : Nat), r + m = gRooms w h → (∀ x, x < r → ∃ d, wy w h kd d x) → mhV l K mX7_shutOf kc ks Φ 7 [some (.ref 21), some (.int (nI j)), some (.int (nI r))] [] S F I J P := by
  have hbd := gBd hm.2.1
  intro m
  induction m with
  | zero =>
    intro r hd hx
    obtain rfl : r = gRooms w h := by omega
    refine mh_iload_2 dX7_shutOf_7 (q := 8) rfl ?_
    refine mh_aload_0 dX7_shutOf_8 (q := 9) rfl ?_
    refine mh_iload_1 dX7_shutOf_9 (q := 10) rfl ?_
    refine mh_callV1 ca_X7_shutOf_10 (shX7_0 h7) (q := 13) rfl (by simp [Value.category]) ⟨Nat.zero_le _, Nat.zero_le _⟩ ?_
    refine sp_X7_rooms h7 hm ?_
    refine mh_icmp_ge dX7_shutOf_13 (tgt := 35) (q := 16) rfl rfl (fun _ => ?_) (fun hh => absurd (nI_le (Nat.le_refl _) (by omega)) hh)
    refine mh_bipush (v := (-9)) dX7_shutOf_35 (q := 37) rfl (by decide) ?_
    refine mh_ireturn dX7_shutOf_37 rfl rfl ?_
    exact hΦ _ (Or.inr ⟨rfl, hx⟩)
  | succ m ih =>
    intro r hd hx
    have har := ha r (by omega)
    refine mh_iload_2 dX7_shutOf_7 (q := 8) rfl ?_
    refine mh_aload_0 dX7_shutOf_8 (q := 9) rfl ?_
    refine mh_iload_1 dX7_shutOf_9 (q := 10) rfl ?_
    refine mh_callV1 ca_X7_shutOf_10 (shX7_0 h7) (q := 13) rfl (by simp [Value.category]) ⟨Nat.zero_le _, Nat.zero_le _⟩ ?_
    refine sp_X7_rooms h7 hm ?_
    refine mh_icmp_ge dX7_shutOf_13 (tgt := 35) (q := 16) rfl rfl (fun hh => absurd hh (nI_ge (by omega) (by omega))) (fun _ => ?_)
    refine mh_aload_0 dX7_shutOf_16 (q := 17) rfl ?_
    refine mh_getR fl_X7_86 dX7_shutOf_17 (q := 20) rfl (shX7_0 h7) rfl ?_
    refine mh_iload_2 dX7_shutOf_20 (q := 21) rfl ?_
    refine mh_iald dX7_shutOf_21 (q := 22) rfl (shX7_26 h7) (vp_in_nI (by omega) (by decide)) ?_
    refine mh_bipush (v := (-9)) dX7_shutOf_22 (q := 24) rfl (by decide) ?_
    refine mh_icmp_ne dX7_shutOf_24 (tgt := 29) (q := 27) rfl rfl (fun c24 => ?_) (fun c24 => ?_)
    · skip
      refine mh_iinc_2 (v := 1) dX7_shutOf_29 (q := 32) rfl (by decide) ?_
      refine mh_goto dX7_shutOf_32 (tgt := 7) rfl ?_
      rw [nI_1]
      refine ih (r + 1) (by omega) (fun x hx2 => ?_)
      rcases Nat.lt_or_ge x r with q | q
      · exact hx x q
      · obtain rfl : x = r := by omega
        rcases har with ⟨d, z1, z2, z3, z4⟩ | ⟨z1, z2⟩
        · exact ⟨_, z3⟩
        · exact absurd z1 c24
    · skip
      refine mh_iload_2 dX7_shutOf_27 (q := 28) rfl ?_
      refine mh_ireturn dX7_shutOf_28 rfl rfl ?_
      rcases har with ⟨d, z1, z2, z3, z4⟩ | ⟨z1, z2⟩
      · rw [c24] at z2; exact absurd z2.symm (mh_n9 (by omega))
      · exact hΦ _ (Or.inl ⟨r, by omega, rfl, z2, hx⟩)
set_option maxHeartbeats 4000000 in
set_option maxRecDepth 100000 in
theorem sp_X7_shutOf {l : Launch} {K : mhX} {Φ : mhQ} {S : List mhS} {F : mhF} {I : mhI} {J : mhJ} {P : mhP} (h7 : mhKX7 S) {j w h : Nat} {kd : Nat → Int32} (hm : mhHm I j w h) (hk : mhKn I j w h kd) (hΦ : ∀ (y : Int32) (I2 : mhI), shA w h kd y → fr47 I I2 → (∀ y, y < gRooms w h → faA w h kd y (I2 47 (nI y))) → Φ (some (.int y)) S F I2 J P) : mhOk l K mX7_shutOf [.ref 21, .int (nI j)] S F I J P Φ := by
  refine mhOk.of (by decide) (by decide) rfl (Nat.le_of_ble_eq_true rfl) ?_
  refine mh_aload_0 dX7_shutOf_0 (q := 1) rfl ?_
  refine mh_iload_1 dX7_shutOf_1 (q := 2) rfl ?_
  refine mh_callV1 ca_X7_shutOf_2 (shX7_0 h7) (q := 5) rfl (by simp [Value.category]) ⟨Nat.zero_le _, Nat.zero_le _⟩ ?_
  refine sp_X7_layFars h7 hm hk (fun I2 hf ha => ?_)
  refine mh_iconst_0 dX7_shutOf_5 (q := 6) rfl ?_
  refine mh_istore_2 dX7_shutOf_6 (q := 7) rfl ?_
  exact lp_X7_shutOf h7 (hm.f47 hf) ha (fun z hz => hΦ z I2 hz hf ha) (gRooms w h) 0 (Nat.zero_add _) (fun x hx => absurd hx (Nat.not_lt_zero x))
set_option maxHeartbeats 4000000 in
set_option maxRecDepth 100000 in
theorem lp_X7_areNear {l : Launch} {K : mhX} {kc ks : Nat} {Φ : mhQ} {S : List mhS} {F : mhF} {I : mhI} {J : mhJ} {P : mhP} (h7 : mhKX7 S) {j w h n : Nat} (h1 : 1 ≤ n) (hn : n < 1000) {kd : Nat → Int32} (hm : mhHm I j w h) (ha : ∀ y, y < gRooms w h → faA w h kd y (I 47 (nI y))) (hall : ∀ y, y < gRooms w h → ∃ d, wy w h kd d y) (ht : near w h kd n → Φ (some (.int 1)) S F I J P) (hf : ¬ near w h kd n → Φ (some (.int 0)) S F I J P) : ∀ (m r : Nat), r + m = gRooms w h → (∀ x, x < r → wy w h kd n x) → mhV l K mX7_areNear kc ks Φ 14 [some (.ref 21), some (.int (nI j)), some (.int (nI n)), some (.int (nI r))] [] S F I J P := by
  have hbd := gBd hm.2.1
  intro m
  induction m with
  | zero =>
    intro r hd hx
    obtain rfl : r = gRooms w h := by omega
    refine mh_iload_3 dX7_areNear_14 (q := 15) rfl ?_
    refine mh_aload_0 dX7_areNear_15 (q := 16) rfl ?_
    refine mh_iload_1 dX7_areNear_16 (q := 17) rfl ?_
    refine mh_callV1 ca_X7_areNear_17 (shX7_0 h7) (q := 20) rfl (by simp [Value.category]) ⟨Nat.zero_le _, Nat.zero_le _⟩ ?_
    refine sp_X7_rooms h7 hm ?_
    refine mh_icmp_ge dX7_areNear_20 (tgt := 41) (q := 23) rfl rfl (fun _ => ?_) (fun hh => absurd (nI_le (Nat.le_refl _) (by omega)) hh)
    refine mh_iconst_1 dX7_areNear_41 (q := 42) rfl ?_
    refine mh_ireturn dX7_areNear_42 rfl rfl ?_
    exact ht hx
  | succ m ih =>
    intro r hd hx
    obtain ⟨d, z1, z2, z3, z4⟩ : ∃ d, d ≤ gRooms w h ∧ I 47 (nI r) = nI (d + 1) ∧ wy w h kd (d + 1) r ∧ ¬ wy w h kd d r := by
      rcases ha r (by omega) with q | ⟨_, q⟩
      · exact q
      · obtain ⟨d, z⟩ := hall r (by omega)
        exact absurd z (q d)
    refine mh_iload_3 dX7_areNear_14 (q := 15) rfl ?_
    refine mh_aload_0 dX7_areNear_15 (q := 16) rfl ?_
    refine mh_iload_1 dX7_areNear_16 (q := 17) rfl ?_
    refine mh_callV1 ca_X7_areNear_17 (shX7_0 h7) (q := 20) rfl (by simp [Value.category]) ⟨Nat.zero_le _, Nat.zero_le _⟩ ?_
    refine sp_X7_rooms h7 hm ?_
    refine mh_icmp_ge dX7_areNear_20 (tgt := 41) (q := 23) rfl rfl (fun hh => absurd hh (nI_ge (by omega) (by omega))) (fun _ => ?_)
    refine mh_aload_0 dX7_areNear_23 (q := 24) rfl ?_
    refine mh_getR fl_X7_86 dX7_areNear_24 (q := 27) rfl (shX7_0 h7) rfl ?_
    refine mh_iload_3 dX7_areNear_27 (q := 28) rfl ?_
    refine mh_iald dX7_areNear_28 (q := 29) rfl (shX7_26 h7) (vp_in_nI (by omega) (by decide)) ?_
    rw [z2]
    refine mh_iload_2 dX7_areNear_29 (q := 30) rfl ?_
    refine mh_icmp_le dX7_areNear_30 (tgt := 35) (q := 33) rfl rfl (fun c30 => ?_) (fun c30 => ?_)
    · skip
      refine mh_iinc_3 (v := 1) dX7_areNear_35 (q := 38) rfl (by decide) ?_
      refine mh_goto dX7_areNear_38 (tgt := 14) rfl ?_
      rw [nI_1]
      refine ih (r + 1) (by omega) (fun x hx2 => ?_)
      rcases Nat.lt_or_ge x r with q | q
      · exact hx x q
      · obtain rfl : x = r := by omega
        rw [nI_leI (by omega) (by omega)] at c30
        exact wy_le z3 c30
    · skip
      refine mh_iconst_0 dX7_areNear_33 (q := 34) rfl ?_
      refine mh_ireturn dX7_areNear_34 rfl rfl ?_
      refine hf (fun z => ?_)
      rw [nI_leI (by omega) (by omega)] at c30
      exact z4 (wy_le (z r (by omega)) (by omega))
set_option maxHeartbeats 4000000 in
set_option maxRecDepth 100000 in
theorem sp_X7_areNear {l : Launch} {K : mhX} {Φ : mhQ} {S : List mhS} {F : mhF} {I : mhI} {J : mhJ} {P : mhP} (h7 : mhKX7 S) {j w h : Nat} {kd : Nat → Int32} (hm : mhHm I j w h) (hk : mhKn I j w h kd) {n : Nat} (h1 : 1 ≤ n) (hn : n < 1000) (ht : near w h kd n → ∀ I2 : mhI, fr47 I I2 → Φ (some (.int 1)) S F I2 J P) (hf : ¬ near w h kd n → ∀ I2 : mhI, fr47 I I2 → Φ (some (.int 0)) S F I2 J P) : mhOk l K mX7_areNear [.ref 21, .int (nI j), .int (nI n)] S F I J P Φ := by
  refine mhOk.of (by decide) (by decide) rfl (Nat.le_of_ble_eq_true rfl) ?_
  have hbd := gBd hm.2.1
  refine mh_aload_0 dX7_areNear_0 (q := 1) rfl ?_
  refine mh_iload_1 dX7_areNear_1 (q := 2) rfl ?_
  refine mh_callV1 ca_X7_areNear_2 (shX7_0 h7) (q := 5) rfl (by simp [Value.category]) ⟨Nat.zero_le _, Nat.zero_le _⟩ ?_
  refine sp_X7_shutOf h7 hm hk (fun y I2 hy hf2 ha => ?_)
  refine mh_bipush (v := (-9)) dX7_areNear_5 (q := 7) rfl (by decide) ?_
  refine mh_icmp_eq dX7_areNear_7 (tgt := 12) (q := 10) rfl rfl (fun c7 => ?_) (fun c7 => ?_)
  · skip
    refine mh_iconst_0 dX7_areNear_12 (q := 13) rfl ?_
    refine mh_istore_3 dX7_areNear_13 (q := 14) rfl ?_
    have hall : ∀ y, y < gRooms w h → ∃ d, wy w h kd d y := by
      rcases hy with ⟨r, q1, q2, q3, q4⟩ | q
      · rw [c7] at q2; exact absurd q2.symm (mh_n9 (by omega))
      · exact q.2
    exact lp_X7_areNear h7 h1 hn (hm.f47 hf2) ha hall (fun z => ht z I2 hf2) (fun z => hf z I2 hf2) (gRooms w h) 0 (Nat.zero_add _) (fun x hx => absurd hx (Nat.not_lt_zero x))
  · skip
    refine mh_iconst_0 dX7_areNear_10 (q := 11) rfl ?_
    refine mh_ireturn dX7_areNear_11 rfl rfl ?_
    refine hf (fun z => c7 ?_) I2 hf2
    rcases hy with ⟨r, q1, q2, q3, q4⟩ | q
    · exact absurd (z r q1) (q3 n)
    · exact q.1
set_option maxHeartbeats 4000000 in
set_option maxRecDepth 100000 in
theorem sp_X7_far {l : Launch} {K : mhX} {Φ : mhQ} {S : List mhS} {F : mhF} {I : mhI} {J : mhJ} {P : mhP} {nh : Nat} {wd hg : Nat → Nat} (hM : mhHR S F I nh wd hg) {kd : Nat → Nat → Int32} (hK : ∀ j, j < nh → mhKn I j (wd j) (hg j) (kd j)) {x y : Int32} (hn : ¬ vHR nh wd hg x y → Φ (some (.int (-1))) S F I J P) (ht : ∀ j r, j < nh → r < gRooms (wd j) (hg j) → x = nI j → y = nI r → ∀ (z : Int32) (I2 : mhI), faA (wd j) (hg j) (kd j) r z → fr47 I I2 → Φ (some (.int z)) S F I2 J P) : mhOk l K mX7_far [.ref 21, .int x, .int y] S F I J P Φ := by
  refine mhOk.of (by decide) (by decide) rfl (Nat.le_of_ble_eq_true rfl) ?_
  refine mh_aload_0 dX7_far_0 (q := 1) rfl ?_
  refine mh_iload_1 dX7_far_1 (q := 2) rfl ?_
  refine mh_iload_2 dX7_far_2 (q := 3) rfl ?_
  refine mh_callV2 ca_X7_far_3 (shX7_0 hM.1) (q := 6) rfl (by simp [Value.category]) ⟨Nat.zero_le _, Nat.zero_le _⟩ ?_
  refine sp_X7_isRoom hM (fun j r hj hr ej er => ?_) (fun hk => ?_)
  · skip
    subst ej; subst er
    refine mh_if_ne dX7_far_6 (tgt := 11) (q := 9) rfl rfl (fun _ => ?_) (fun hh => False.elim (by revert hh; decide))
    refine mh_aload_0 dX7_far_11 (q := 12) rfl ?_
    refine mh_iload_1 dX7_far_12 (q := 13) rfl ?_
    refine mh_callV1 ca_X7_far_13 (shX7_0 hM.1) (q := 16) rfl (by simp [Value.category]) ⟨Nat.zero_le _, Nat.zero_le _⟩ ?_
    refine sp_X7_layFars hM.1 (hM.2.2.2 j hj) (hK j hj) (fun I2 hf ha => ?_)
    refine mh_aload_0 dX7_far_16 (q := 17) rfl ?_
    refine mh_getR fl_X7_86 dX7_far_17 (q := 20) rfl (shX7_0 hM.1) rfl ?_
    refine mh_iload_2 dX7_far_20 (q := 21) rfl ?_
    refine mh_iald dX7_far_21 (q := 22) rfl (shX7_26 hM.1) (vp_in_nI (by have := gBd (hM.2.2.2 j hj).2.1; omega) (by decide)) ?_
    refine mh_ireturn dX7_far_22 rfl rfl ?_
    exact ht j r hj hr rfl rfl _ I2 (ha r hr) hf
  · skip
    refine mh_if_ne dX7_far_6 (tgt := 11) (q := 9) rfl rfl (fun hh => False.elim (by revert hh; decide)) (fun _ => ?_)
    refine mh_iconst_m1 dX7_far_9 (q := 10) rfl ?_
    refine mh_ireturn dX7_far_10 rfl rfl ?_
    exact hn hk
set_option maxHeartbeats 4000000 in
set_option maxRecDepth 100000 in
theorem sp_X7_shut {l : Launch} {K : mhX} {Φ : mhQ} {S : List mhS} {F : mhF} {I : mhI} {J : mhJ} {P : mhP} {nh : Nat} {wd hg : Nat → Nat} (hM : mhHR S F I nh wd hg) {kd : Nat → Nat → Int32} (hK : ∀ j, j < nh → mhKn I j (wd j) (hg j) (kd j)) {x : Int32} (hn : ¬ vHs nh x → Φ (some (.int (-1))) S F I J P) (ht : ∀ j, j < nh → x = nI j → ∀ (z : Int32) (I2 : mhI), shA (wd j) (hg j) (kd j) z → fr47 I I2 → Φ (some (.int z)) S F I2 J P) : mhOk l K mX7_shut [.ref 21, .int x] S F I J P Φ := by
  refine mhOk.of (by decide) (by decide) rfl (Nat.le_of_ble_eq_true rfl) ?_
  refine mh_aload_0 dX7_shut_0 (q := 1) rfl ?_
  refine mh_iload_1 dX7_shut_1 (q := 2) rfl ?_
  refine mh_callV1 ca_X7_shut_2 (shX7_0 hM.1) (q := 5) rfl (by simp [Value.category]) ⟨Nat.zero_le _, Nat.zero_le _⟩ ?_
  refine sp_X7_isHouse hM (fun j hj ej => ?_) (fun hk => ?_)
  · skip
    subst ej
    refine mh_if_eq dX7_shut_5 (tgt := 16) (q := 8) rfl rfl (fun hh => False.elim (by revert hh; decide)) (fun _ => ?_)
    refine mh_aload_0 dX7_shut_8 (q := 9) rfl ?_
    refine mh_iload_1 dX7_shut_9 (q := 10) rfl ?_
    refine mh_callV1 ca_X7_shut_10 (shX7_0 hM.1) (q := 13) rfl (by simp [Value.category]) ⟨Nat.zero_le _, Nat.zero_le _⟩ ?_
    refine sp_X7_shutOf hM.1 (hM.2.2.2 j hj) (hK j hj) (fun z I2 hz hf _ => ?_)
    refine mh_goto dX7_shut_13 (tgt := 17) rfl ?_
    refine mh_ireturn dX7_shut_17 rfl rfl ?_
    exact ht j hj rfl z I2 hz hf
  · skip
    refine mh_if_eq dX7_shut_5 (tgt := 16) (q := 8) rfl rfl (fun _ => ?_) (fun hh => False.elim (by revert hh; decide))
    refine mh_iconst_m1 dX7_shut_16 (q := 17) rfl ?_
    refine mh_ireturn dX7_shut_17 rfl rfl ?_
    exact hn hk
