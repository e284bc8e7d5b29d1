/-! the law: from its first instruction to its turns -/
theorem rdW_l : ∀ w ∈ List.range 5, rdW (nI (48 + w)) = w ∧ (1 ≤ w → 49 ≤ nI (48 + w) ∧ nI (48 + w) ≤ 52) ∧ (1 ≤ w → w < 4 → nI (48 + w) ≤ 51) := by decide +kernel
theorem rdW_c {w : Nat} (hw : w < 5) : rdW (nI (48 + w)) = w := (rdW_l w (List.mem_range.mpr hw)).1
theorem knd_C {v : Int32} (h : kdA v) : knd (kdC v) = v := by
  rcases h with rfl | rfl | rfl <;> decide
theorem kdA_9 {v : Int32} (h : kdA v) : ¬ v = -9 := by
  rcases h with rfl | rfl | rfl <;> decide
/-- the text is one of a house -/
theorem lwTx.ff {I : mhI} {b w h : Nat} (g : gOk w h) (ht : lwTx I b w h (gSides w h)) : ffA (fun t => I 14 (nI (0 + t))) (5 + gSides w h) (-9) := by
  obtain ⟨t0, t1, t2, t3, t4, tk⟩ := ht
  obtain ⟨g1, g2, g3, g4⟩ := g
  have z : ∀ n : Nat, 0 + n = n := Nat.zero_add
  have hw := rdW_l w (List.mem_range.mpr g2)
  have hh := rdW_l h (List.mem_range.mpr (by omega))
  have hL : htL (fun t => I 14 (nI (0 + t))) = gSides w h := by
    unfold htL
    show gSides (rdW (I 14 (nI (0 + 1)))) (rdW (I 14 (nI (0 + 3)))) = _
    rw [z, z, t1, t3, hw.1, hh.1]
  refine Or.inr (Or.inr ⟨fun s hs => ⟨fun e => ?_, fun e => ?_, fun e => ?_, fun e => ?_, fun e => ?_, fun e => ⟨by rw [hL]; exact hs, ?_⟩⟩, ?_, rfl⟩)
  · show I 14 (nI (0 + 0)) = 119
    exact t0
  · show 49 ≤ I 14 (nI (0 + 1)) ∧ I 14 (nI (0 + 1)) ≤ 52
    rw [z, t1]; exact hw.2.1 g1
  · show I 14 (nI (0 + 2)) = 104
    rw [z]; exact t2
  · show 49 ≤ I 14 (nI (0 + 3)) ∧ I 14 (nI (0 + 3)) ≤ 51
    rw [z, t3]; exact ⟨(hh.2.1 g3).1, hh.2.2 g3 g4⟩
  · show I 14 (nI (0 + 4)) = 59
    rw [z]; exact t4
  · show ¬ knd (I 14 (nI (0 + s))) = -9
    obtain ⟨k, rfl⟩ : ∃ k, s = 5 + k := ⟨s - 5, by omega⟩
    have := tk k (by omega)
    rw [z, this.2, knd_C this.1]
    exact kdA_9 this.1
  · unfold ffW
    rw [if_neg (by omega), hL]
    exact Nat.le_refl _
def S21 : List mhS := S6 ++ [.inl (0, 50)]
theorem sF6 {j : Nat} (hj : j < 4) : F6 (13 + 2 * j) 1 = -9 ∧ F6 (13 + 2 * j) 2 = 0 := by
  rcases (show j = 0 ∨ j = 1 ∨ j = 2 ∨ j = 3 by omega) with rfl | rfl | rfl | rfl <;> exact ⟨rfl, rfl⟩
theorem sh_start : mhSh S21 F6 P6 := by
  intro j hj
  have k4 : j = 0 ∨ j = 1 ∨ j = 2 ∨ j = 3 := by omega
  refine ⟨?_, ?_, ?_, ?_⟩
  · rcases k4 with rfl | rfl | rfl | rfl <;> rfl
  · rcases k4 with rfl | rfl | rfl | rfl <;> exact ⟨rfl, rfl⟩
  · rw [(sF6 hj).2]; decide
  · rw [(sF6 hj).2]; decide
theorem k6_start : mhKX6 S21 := ⟨rfl, rfl, rfl, rfl, rfl, rfl⟩
theorem k4_start : mhKX4 S21 := ⟨rfl, rfl, rfl, rfl⟩
theorem lw_ag {F : mhF} {n : Nat} (h1 : F 13 1 = 1) (h2 : F 13 2 = 60) (hn : n ≤ 60) : mhAg (F 13 1) (F 13 2) 1 0 (nI n) = 0 := by
  have h3 : nI n ≤ (60 : Int32) - 0 := by
    rw [show (60 : Int32) - 0 = nI 60 from by decide]
    exact (nI_leI (by omega) (by decide)).mpr hn
  rw [h1, h2]
  unfold mhAg
  rw [if_neg (by decide), if_neg (by decide), if_neg (nI_pos (by omega)), if_pos ⟨by decide, by decide, h3⟩]
/-- behind the house and the law's second array -/
theorem lwI_start {S S2 : List mhS} {F F2 : mhF} {I I2 : mhI} {P : mhP} {w h : Nat} (g : gOk w h) (hS : S = S21) (hf : ∀ k, ¬ k = 12 → F 0 k = F6 0 k) (hh : lwHd I 21 w h) (ht : lwTx I 21 w h (gSides w h)) (hs : exS S S2) (hlen : S2.length = S.length + 11) (hH : mhHs S2 F2 I2 S.length (rdW (I 14 (nI (0 + 1)))) (rdW (I 14 (nI (0 + 3))))) (hp : mhPn I2 S.length (rdW (I 14 (nI (0 + 1)))) (rdW (I 14 (nI (0 + 3)))) (fun k => knd (I 14 (nI (0 + (5 + k)))))) (hF : ∀ b x, b < S.length → ¬ (b = 0 ∧ x = 7) → F2 b x = mhUF F 0 12 0 b x) (h7 : F2 0 7 = nI (0 + 1)) (hI : ∀ b y, b < S.length → I2 b y = I b y) (rp : mhRp) : lwI (S2 ++ [.inl (0, 5)]) F2 (mhZI I2 S2.length) (mhUP P 2 (nI 0) (some S.length)) w h (fun k => I 21 (nI (3 + k))) (fun k => I 21 (nI (3 + k))) 0 rp := by
  have hl : S.length = 22 := by rw [hS]; rfl
  rw [hl] at hlen hH hp hF hI ⊢
  have h33 : S2.length = 33 := by omega
  have hs3 : exS S (S2 ++ [.inl (0, 5)]) := fun i s hi => exS.app _ _ (hs i s hi)
  have hz : ∀ b y, b < 33 → mhZI I2 S2.length b y = I2 b y := fun b y hb => by
    unfold mhZI
    rw [if_neg (by omega)]
  have ew : rdW (I 14 (nI (0 + 1))) = w := by rw [ht.2.1]; exact rdW_c g.2.1
  have eh : rdW (I 14 (nI (0 + 3))) = h := by rw [ht.2.2.2.1]; exact rdW_c (by have := g.2.2.2; omega)
  rw [ew, eh] at hH hp
  refine ⟨k4_start.ex (hS ▸ hs3), ⟨k6_start.ex (hS ▸ hs3), by omega, h7, fun j hj => ⟨by simp [mhUP, show j = 0 by omega], ?_⟩⟩, fun k hk => ?_, ⟨hs3 _ _ (by rw [hS]; rfl), g, ?_, ?_, ?_, fun k hk => ?_⟩, ?_, ⟨fun _ => 0, by omega, ?_, fun k hk => absurd hk (by omega)⟩, fun k hk => absurd hk (by omega)⟩
  · exact hH.ex exS.app ⟨fun _ _ _ => rfl, fun b y hb => hz b y (by omega)⟩
  · have hk' := ht.2.2.2.2.2 k hk
    refine (hz _ _ (show 22 + 1 < 33 by omega)).trans ((hp k hk).trans ?_)
    show knd (I 14 (nI (0 + (5 + k)))) = _
    rw [Nat.zero_add, hk'.2, knd_C hk'.1]
  · exact (hz _ _ (by omega)).trans ((hI _ _ (by omega)).trans hh.1)
  · exact (hz _ _ (by omega)).trans ((hI _ _ (by omega)).trans hh.2.1)
  · exact (hz _ _ (by omega)).trans ((hI _ _ (by omega)).trans hh.2.2)
  · exact (hz _ _ (by omega)).trans (hI _ _ (by omega))
  · rw [List.getElem?_append_right (by omega), h33]
    rfl
  · exact (hF 0 8 (by omega) (by omega)).trans ((hf 8 (by omega)).trans rfl)
set_option maxHeartbeats 4000000 in
set_option maxRecDepth 100000 in
theorem go_L_law {l : Launch} {K : mhX} {Φ : mhQ} (hL : K.2.2.2.2.1 ≤ 260) (hΦ : ∀ (S : List mhS) (F : mhF) (I : mhI) (J : mhJ) (P : mhP), Φ (some (.int 1)) S F I J P) : mhV l K mL_law 600000 7302250 Φ 0 [some (.retAddr 0), none, none, none, none, none, none, none, none, none, none, none, none, none, none, none, none, none] [] [] zF zI zJ zP := by
  refine mh_new (ci := 5) (T := TX6) (N := 13) (ty0 := tyX6) (rs := [some none, some none, some none, some none, some none, some none, some none, none, none, none, none, none, none]) dL_law_0 wd_22 wd_23 wd_14 rfl inX6 tyX6_ok (fun j hj => by rcases (show j = 0 ∨ j = 1 ∨ j = 2 ∨ j = 3 ∨ j = 4 ∨ j = 5 ∨ j = 6 ∨ j = 7 ∨ j = 8 ∨ j = 9 ∨ j = 10 ∨ j = 11 ∨ j = 12 by omega) with rfl | rfl | rfl | rfl | rfl | rfl | rfl | rfl | rfl | rfl | rfl | rfl | rfl <;> first | exact Or.inl ⟨rfl, rfl⟩ | exact Or.inr ⟨rfl, rfl⟩) (q := 3) rfl (by decide) ?_
  refine mhV_cv (st' := [.ref 0]) (S' := [.inr (5, [some none, some none, some none, some none, some none, some none, some none, none, none, none, none, none, none])]) (F' := zF) rfl rfl rfl zF_z rfl rfl rfl ?_
  refine mh_dupr dL_law_3 (q := 4) rfl ?_
  refine mh_callI0 ca_L_law_4 (q := 7) rfl (by simp [Value.category]) (by decide) ?_
  refine sp_X6_init rfl ?_
  refine mh_astore_1 dL_law_7 (q := 8) rfl ?_
  refine mh_bipush (v := 50) dL_law_8 (q := 10) rfl (by decide) ?_
  refine mh_newI (N := 50) dL_law_10 wd_80 (by decide) rfl (Nat.le_of_ble_eq_true rfl) (q := 12) rfl (by decide) ?_
  refine mhV_cv (lo' := [some (.retAddr 0), some (.ref 0), none, none, none, none, none, none, none, none, none, none, none, none, none, none, none, none]) (st' := [.ref 21]) (S' := S21) (I' := zI) rfl rfl rfl rfl zI_z rfl rfl ?_
  refine mh_astore_2 dL_law_12 (q := 13) rfl ?_
  refine mh_aload_1 dL_law_13 (q := 14) rfl ?_
  refine mh_aloadT_0 dL_law_14 (q := 15) rfl ?_
  refine mh_iconst_0 dL_law_15 (q := 16) rfl ?_
  refine mh_iconst_4 dL_law_16 (q := 17) rfl ?_
  refine mh_iconst_3 dL_law_17 (q := 18) rfl ?_
  refine mh_aload_2 dL_law_18 (q := 19) rfl ?_
  refine mh_callS6 ca_L_law_19 (q := 22) rfl (by simp [Value.category]) ⟨Nat.zero_le _, Nat.zero_le _⟩ ?_
  refine sp_L_put k6_start sh_start hL rfl (by omega) (fun w h F I g hf hs hh ht => ?_)
  have hbd := gBd g
  refine mh_istore_3 dL_law_22 (q := 23) rfl ?_
  refine mh_iload_3 dL_law_23 (q := 24) rfl ?_
  refine mh_bipush (v := 10) dL_law_24 (q := 26) rfl (by decide) ?_
  refine mh_icmp_lt dL_law_26 (tgt := 40) (q := 29) rfl rfl (fun hh => absurd hh (by rw [show (10 : Int32) = nI 10 from rfl, nI_ltI (by omega) (by omega)]; omega)) (fun _ => ?_)
  refine mh_aload_1 dL_law_29 (q := 30) rfl ?_
  refine mh_iconst_0 dL_law_30 (q := 31) rfl ?_
  refine mh_iconst_1 dL_law_31 (q := 32) rfl ?_
  refine mh_iconst_0 dL_law_32 (q := 33) rfl ?_
  refine mh_iload_3 dL_law_33 (q := 34) rfl ?_
  refine mh_callV4 ca_L_law_34 (shX6_0 k6_start) (q := 37) rfl (by simp [Value.category]) (by decide) ?_
  have hff := ht.ff g
  have hAg := lw_ag (F := F) (n := 5 + gSides w h) hs.2.1 hs.2.2 (by omega)
  have inj : ∀ nn : Nat, nI (5 + gSides w h) = nI nn → nn ≤ 60 → nn = 5 + gSides w h := fun nn e hle => ((nI_eq (by omega) (by omega)).mp e).symm
  have zro : ∀ ii : Nat, (0 : Int32) = nI ii → ii ≤ 60 → ii = 0 := fun ii e hle => ((nI_eq (a := 0) (by omega) (by omega)).mp e).symm
  refine sp_X6_house (nh := 0) (wd := fun _ => 0) (hg := fun _ => 0) (aH := fun _ => 0) (cl := fun js c => I (13 + 2 * js + 1) (nI c)) ⟨k6_start, by omega, (hf 7 (by omega)).trans rfl, fun j hj => absurd hj (by omega)⟩ hs.1 (by decide) (fun j _ _ c _ => rfl) (fun hn => absurd (by unfold mhSc; decide) hn) (fun _ hn => absurd (by unfold mhSo; decide) hn) (fun js hj e _ hn => ?_) (fun js ii nn y hj e _ _ e1 e2 hle hy hy9 => ?_) (fun js ii nn _ _ _ _ _ _ _ _ e => absurd e (by omega)) (fun js ii nn hj e _ _ e1 e2 hle _ _ _ S2 F2 I2 hs2 hlen hH hp _ hF h7 hI2 => ?_)
  · obtain rfl := nI0_j hj e
    exact absurd hAg hn
  · obtain rfl := nI0_j hj e
    obtain rfl := zro ii e1 (by omega)
    obtain rfl := inj nn e2 (by omega)
    exact absurd (ffA_un hy hff) hy9
  obtain rfl := nI0_j hj e
  obtain rfl := zro ii e1 (by omega)
  have hI := lwI_start g rfl hf hh ht hs2 hlen hH hp hF h7 hI2 (P := P6) (fun _ => (0, 0, 0, 0, 0))
  have h33 : S2.length = 33 := hlen
  have r0 : I2 21 0 = nI w := (hI2 21 _ (by decide)).trans hh.1
  have r1 : I2 21 1 = nI h := (hI2 21 _ (by decide)).trans hh.2.1
  have hb2 : S2[21]? = some (.inl (0, 50)) := hs2 _ _ rfl
  refine mh_if_eq dL_law_37 (tgt := 42) (q := 40) rfl rfl (fun _ => ?_) (fun hh => False.elim (by revert hh; decide))
  refine mh_iconst_2 dL_law_42 (q := 43) rfl ?_
  refine mh_aload_2 dL_law_43 (q := 44) rfl ?_
  refine mh_iconst_0 dL_law_44 (q := 45) rfl ?_
  refine mh_iald dL_law_45 (q := 46) rfl hb2 (vp_in_nI (n := 0) (by decide) (by decide)) ?_
  rw [r0]
  refine mh_imul dL_law_46 (q := 47) rfl ?_
  refine mh_aload_2 dL_law_47 (q := 48) rfl ?_
  refine mh_iconst_1 dL_law_48 (q := 49) rfl ?_
  refine mh_iald dL_law_49 (q := 50) rfl hb2 (vp_in_nI (n := 1) (by decide) (by decide)) ?_
  rw [r1]
  refine mh_imul dL_law_50 (q := 51) rfl ?_
  rw [gRm g]
  refine mh_istore_4 dL_law_51 (q := 53) rfl ?_
  refine mh_iconst_5 dL_law_53 (q := 54) rfl ?_
  refine mh_newI (N := 5) dL_law_54 wd_80 (by decide) rfl (Nat.le_of_ble_eq_true rfl) (q := 56) rfl (by decide) ?_
  rw [h33]
  refine mh_astore_5 dL_law_56 (q := 58) rfl ?_
  refine mh_iconst_0 dL_law_58 (q := 59) rfl ?_
  refine mh_istore_6 dL_law_59 (q := 61) rfl ?_
  rw [h33] at hI
  exact go_L_rest hI (by omega) hL (fun x hx => (ht.2.2.2.2.2 x hx).1) (by decide) (by decide) hΦ
