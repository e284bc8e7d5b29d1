/-! the reference's house -/
def dgR (c : Nat → Int32) (n t : Nat) : Int32 := if t < n ∧ 48 ≤ c t ∧ c t ≤ 57 then c t - 48 else -9
theorem dgR_in {c : Nat → Int32} {n t : Nat} {m : Int32} (hm : m ≤ 9) : (1 ≤ dgR c n t ∧ dgR c n t ≤ m) → t < n ∧ dgR c n t = c t - 48 ∧ 49 ≤ c t ∧ c t ≤ m + 48 := by
  intro h
  unfold dgR at h ⊢
  by_cases q : t < n ∧ 48 ≤ c t ∧ c t ≤ 57
  · rw [if_pos q] at h ⊢
    exact ⟨q.1, rfl, by grind, by grind⟩
  · rw [if_neg q] at h; exact absurd h.1 (by decide)
theorem dgR_out {c : Nat → Int32} {n t : Nat} {m : Int32} (hm1 : 1 ≤ m) (hm : m ≤ 9) (h : ¬ (1 ≤ dgR c n t ∧ dgR c n t ≤ m)) (htn : t < n) : ¬ (49 ≤ c t ∧ c t ≤ m + 48) := by
  intro z
  unfold dgR at h
  rw [if_pos ⟨htn, by grind, by grind⟩] at h
  exact h ⟨by grind, by grind⟩
set_option maxHeartbeats 4000000 in
set_option maxRecDepth 100000 in
theorem sp_X7_digitAt {l : Launch} {K : mhX} {Φ : mhQ} {S : List mhS} {F : mhF} {I : mhI} {J : mhJ} {P : mhP} (h7 : mhKX7 S) {f n : Nat} {c : Nat → Int32} (hfn : f + n ≤ 240) (hc : ∀ t, t < n → I 24 (nI (f + t)) = c t) {t : Nat} (ht : t < 100) (hΦ : Φ (some (.int (dgR c n t))) S F I J P) : mhOk l K mX7_digitAt [.ref 21, .int (nI (f + t)), .int (nI (f + n))] S F I J P Φ := by
  refine mhOk.of (by decide) (by decide) rfl (Nat.le_of_ble_eq_true rfl) ?_
  refine mh_iload_1 dX7_digitAt_0 (q := 1) rfl ?_
  refine mh_iload_2 dX7_digitAt_1 (q := 2) rfl ?_
  refine mh_icmp_ge dX7_digitAt_2 (tgt := 33) (q := 5) rfl rfl (fun c2 => ?_) (fun c2 => ?_)
  · skip
    rw [nI_leI (by omega) (by omega)] at c2
    refine mh_bipush (v := (-9)) dX7_digitAt_33 (q := 35) rfl (by decide) ?_
    refine mh_ireturn dX7_digitAt_35 rfl rfl ?_
    refine mh_cl hΦ ?_
    unfold dgR
    rw [if_neg (fun z => by omega)]
  · skip
    rw [nI_leI (by omega) (by omega)] at c2
    refine mh_aload_0 dX7_digitAt_5 (q := 6) rfl ?_
    refine mh_getR fl_X7_16 dX7_digitAt_6 (q := 9) rfl (shX7_0 h7) rfl ?_
    refine mh_iload_1 dX7_digitAt_9 (q := 10) rfl ?_
    refine mh_iald dX7_digitAt_10 (q := 11) rfl (shX7_3 h7) (vp_in_nI (by omega) (by decide)) ?_
    rw [hc t (by omega)]
    refine mh_bipush (v := 48) dX7_digitAt_11 (q := 13) rfl (by decide) ?_
    refine mh_bipush (v := 57) dX7_digitAt_13 (q := 15) rfl (by decide) ?_
    refine mh_callS3 ca_X7_digitAt_15 (q := 18) rfl (by simp [Value.category]) ⟨Nat.zero_le _, Nat.zero_le _⟩ ?_
    refine sp_X7_within (fun cw => ?_) (fun cw => ?_)
    · skip
      refine mh_if_eq dX7_digitAt_18 (tgt := 33) (q := 21) rfl rfl (fun hh => False.elim (by revert hh; decide)) (fun _ => ?_)
      refine mh_aload_0 dX7_digitAt_21 (q := 22) rfl ?_
      refine mh_getR fl_X7_16 dX7_digitAt_22 (q := 25) rfl (shX7_0 h7) rfl ?_
      refine mh_iload_1 dX7_digitAt_25 (q := 26) rfl ?_
      refine mh_iald dX7_digitAt_26 (q := 27) rfl (shX7_3 h7) (vp_in_nI (by omega) (by decide)) ?_
      rw [hc t (by omega)]
      refine mh_bipush (v := 48) dX7_digitAt_27 (q := 29) rfl (by decide) ?_
      refine mh_isub dX7_digitAt_29 (q := 30) rfl ?_
      refine mh_goto dX7_digitAt_30 (tgt := 35) rfl ?_
      refine mh_ireturn dX7_digitAt_35 rfl rfl ?_
      refine mh_cl hΦ ?_
      unfold dgR
      rw [if_pos ⟨by omega, cw⟩]
    · skip
      refine mh_if_eq dX7_digitAt_18 (tgt := 33) (q := 21) rfl rfl (fun _ => ?_) (fun hh => False.elim (by revert hh; decide))
      refine mh_bipush (v := (-9)) dX7_digitAt_33 (q := 35) rfl (by decide) ?_
      refine mh_ireturn dX7_digitAt_35 rfl rfl ?_
      refine mh_cl hΦ ?_
      unfold dgR
      rw [if_neg (fun z => cw z.2)]
set_option maxHeartbeats 4000000 in
set_option maxRecDepth 100000 in
theorem lp_X7_readHouse {l : Launch} {K : mhX} {kc ks : Nat} {Φ : mhQ} {S : List mhS} {F : mhF} {I : mhI} {J : mhJ} {P : mhP} (h7 : mhKX7 S) {f n : Nat} {c : Nat → Int32} (hfn : f + n ≤ 240) (hc : ∀ t, t < n → I 24 (nI (f + t)) = c t) (hn6 : n ≤ 60) (ok : gOk (rdW (c 1)) (rdW (c 3))) (hΦ : ∀ y, ffA c n y → Φ (some (.int y)) S F I J P) : ∀ (m q : Nat) (o6 : Option Value), q + m = htL c → 5 + q ≤ n → (∀ s, s < 5 + q → gdA c s) → mhV l K mX7_readHouse kc ks Φ 140 [some (.ref 21), some (.int (nI f)), some (.int (nI n)), some (.int (nI (f + n))), some (.int (nI (htL c))), some (.int (nI q)), o6] [] S F I J P := by
  have hbd := gBd ok
  have hL : htL c = gSides (rdW (c 1)) (rdW (c 3)) := rfl
  have e5 : (5 : Int32) + nI (htL c) = nI (5 + htL c) := nI_add 5 _
  intro m
  induction m with
  | zero =>
    intro q o6 hq hqn hg
    obtain rfl : q = htL c := by omega
    refine mh_iload_5 dX7_readHouse_140 (q := 142) rfl ?_
    refine mh_iload_4 dX7_readHouse_142 (q := 144) rfl ?_
    refine mh_icmp_ge dX7_readHouse_144 (tgt := 208) (q := 147) rfl rfl (fun _ => ?_) (fun hh => absurd (nI_le (Nat.le_refl _) (by omega)) hh)
    refine mh_iload_2 dX7_readHouse_208 (q := 209) rfl ?_
    refine mh_iconst_5 dX7_readHouse_209 (q := 210) rfl ?_
    refine mh_iload_4 dX7_readHouse_210 (q := 212) rfl ?_
    refine mh_iadd dX7_readHouse_212 (q := 213) rfl ?_
    rw [e5]
    refine mh_icmp_le dX7_readHouse_213 (tgt := 223) (q := 216) rfl rfl (fun c213 => ?_) (fun c213 => ?_)
    · skip
      rw [nI_leI (by omega) (by omega)] at c213
      refine mh_bipush (v := (-9)) dX7_readHouse_223 (q := 225) rfl (by decide) ?_
      refine mh_ireturn dX7_readHouse_225 rfl rfl ?_
      exact hΦ _ (Or.inr (Or.inr ⟨fun s hs => hg s (by omega), by unfold ffW; rw [if_neg (by omega)]; omega, rfl⟩))
    · skip
      rw [nI_leI (by omega) (by omega)] at c213
      refine mh_iconst_5 dX7_readHouse_216 (q := 217) rfl ?_
      refine mh_iload_4 dX7_readHouse_217 (q := 219) rfl ?_
      refine mh_iadd dX7_readHouse_219 (q := 220) rfl ?_
      rw [e5]
      refine mh_goto dX7_readHouse_220 (tgt := 225) rfl ?_
      refine mh_ireturn dX7_readHouse_225 rfl rfl ?_
      exact hΦ _ (Or.inl ⟨5 + htL c, by omega, fun z => by have := (z.2.2.2.2.2 (by omega)).1; omega, hg, rfl⟩)
  | succ m ih =>
    intro q o6 hq hqn hg
    have eq5 : nI f + 5 = nI (f + 5) := nI_add f 5
    have e5q : (5 : Int32) + nI q = nI (5 + q) := nI_add 5 q
    refine mh_iload_5 dX7_readHouse_140 (q := 142) rfl ?_
    refine mh_iload_4 dX7_readHouse_142 (q := 144) rfl ?_
    refine mh_icmp_ge dX7_readHouse_144 (tgt := 208) (q := 147) rfl rfl (fun hh => absurd hh (nI_ge (by omega) (by omega))) (fun _ => ?_)
    refine mh_iload_1 dX7_readHouse_147 (q := 148) rfl ?_
    refine mh_iconst_5 dX7_readHouse_148 (q := 149) rfl ?_
    refine mh_iadd dX7_readHouse_149 (q := 150) rfl ?_
    rw [eq5]
    refine mh_iload_5 dX7_readHouse_150 (q := 152) rfl ?_
    refine mh_iadd dX7_readHouse_152 (q := 153) rfl ?_
    rw [nI_add, Nat.add_assoc]
    refine mh_istore_6 dX7_readHouse_153 (q := 155) rfl ?_
    refine mh_iload_6 dX7_readHouse_155 (q := 157) rfl ?_
    refine mh_iload_3 dX7_readHouse_157 (q := 158) rfl ?_
    refine mh_icmp_ge dX7_readHouse_158 (tgt := 197) (q := 161) rfl rfl (fun c158 => ?_) (fun c158 => ?_)
    · skip
      rw [nI_leI (by omega) (by omega)] at c158
      refine mh_iconst_5 dX7_readHouse_197 (q := 198) rfl ?_
      refine mh_iload_5 dX7_readHouse_198 (q := 200) rfl ?_
      refine mh_iadd dX7_readHouse_200 (q := 201) rfl ?_
      rw [e5q]
      refine mh_ireturn dX7_readHouse_201 rfl rfl ?_
      have en : n = 5 + q := by omega
      rw [show nI (5 + q) = nI n from by rw [en]]
      exact hΦ _ (Or.inr (Or.inl ⟨fun s hs => hg s (by omega), by unfold ffW; rw [if_neg (by omega)]; omega, rfl⟩))
    · skip
      rw [nI_leI (by omega) (by omega)] at c158
      refine mh_aload_0 dX7_readHouse_161 (q := 162) rfl ?_
      refine mh_getR fl_X7_16 dX7_readHouse_162 (q := 165) rfl (shX7_0 h7) rfl ?_
      refine mh_iload_6 dX7_readHouse_165 (q := 167) rfl ?_
      refine mh_iald dX7_readHouse_167 (q := 168) rfl (shX7_3 h7) (vp_in_nI (by omega) (by decide)) ?_
      rw [hc _ (by omega)]
      refine mh_bipush (v := 109) dX7_readHouse_168 (q := 170) rfl (by decide) ?_
      refine mh_icmp_eq dX7_readHouse_170 (tgt := 202) (q := 173) rfl rfl (fun c170 => ?_) (fun c170 => ?_)
      · skip
        refine mh_iinc_5 (v := 1) dX7_readHouse_202 (q := 205) rfl (by decide) ?_
        refine mh_goto dX7_readHouse_205 (tgt := 140) rfl ?_
        rw [nI_1]
        exact ih (q + 1) _ (by omega) (by omega) (fun s hs => by
          rcases Nat.lt_or_ge s (5 + q) with u | u
          · exact hg s u
          · obtain rfl : s = 5 + q := by omega
            exact ⟨fun e => absurd e (by omega), fun e => absurd e (by omega), fun e => absurd e (by omega), fun e => absurd e (by omega), fun e => absurd e (by omega), fun _ => ⟨by omega, by unfold knd; rw [if_pos c170]; decide⟩⟩)
      · skip
        refine mh_aload_0 dX7_readHouse_173 (q := 174) rfl ?_
        refine mh_getR fl_X7_16 dX7_readHouse_174 (q := 177) rfl (shX7_0 h7) rfl ?_
        refine mh_iload_6 dX7_readHouse_177 (q := 179) rfl ?_
        refine mh_iald dX7_readHouse_179 (q := 180) rfl (shX7_3 h7) (vp_in_nI (by omega) (by decide)) ?_
        rw [hc _ (by omega)]
        refine mh_bipush (v := 103) dX7_readHouse_180 (q := 182) rfl (by decide) ?_
        refine mh_icmp_eq dX7_readHouse_182 (tgt := 202) (q := 185) rfl rfl (fun c182 => ?_) (fun c182 => ?_)
        · skip
          refine mh_iinc_5 (v := 1) dX7_readHouse_202 (q := 205) rfl (by decide) ?_
          refine mh_goto dX7_readHouse_205 (tgt := 140) rfl ?_
          rw [nI_1]
          exact ih (q + 1) _ (by omega) (by omega) (fun s hs => by
            rcases Nat.lt_or_ge s (5 + q) with u | u
            · exact hg s u
            · obtain rfl : s = 5 + q := by omega
              exact ⟨fun e => absurd e (by omega), fun e => absurd e (by omega), fun e => absurd e (by omega), fun e => absurd e (by omega), fun e => absurd e (by omega), fun _ => ⟨by omega, by unfold knd; rw [if_neg c170, if_pos c182]; decide⟩⟩)
        · skip
          refine mh_aload_0 dX7_readHouse_185 (q := 186) rfl ?_
          refine mh_getR fl_X7_16 dX7_readHouse_186 (q := 189) rfl (shX7_0 h7) rfl ?_
          refine mh_iload_6 dX7_readHouse_189 (q := 191) rfl ?_
          refine mh_iald dX7_readHouse_191 (q := 192) rfl (shX7_3 h7) (vp_in_nI (by omega) (by decide)) ?_
          rw [hc _ (by omega)]
          refine mh_bipush (v := 111) dX7_readHouse_192 (q := 194) rfl (by decide) ?_
          refine mh_icmp_eq dX7_readHouse_194 (tgt := 202) (q := 197) rfl rfl (fun c194 => ?_) (fun c194 => ?_)
          · skip
            refine mh_iinc_5 (v := 1) dX7_readHouse_202 (q := 205) rfl (by decide) ?_
            refine mh_goto dX7_readHouse_205 (tgt := 140) rfl ?_
            rw [nI_1]
            exact ih (q + 1) _ (by omega) (by omega) (fun s hs => by
              rcases Nat.lt_or_ge s (5 + q) with u | u
              · exact hg s u
              · obtain rfl : s = 5 + q := by omega
                exact ⟨fun e => absurd e (by omega), fun e => absurd e (by omega), fun e => absurd e (by omega), fun e => absurd e (by omega), fun e => absurd e (by omega), fun _ => ⟨by omega, by unfold knd; rw [if_neg c170, if_neg c182, if_pos c194]; decide⟩⟩)
          · skip
            refine mh_iconst_5 dX7_readHouse_197 (q := 198) rfl ?_
            refine mh_iload_5 dX7_readHouse_198 (q := 200) rfl ?_
            refine mh_iadd dX7_readHouse_200 (q := 201) rfl ?_
            rw [e5q]
            refine mh_ireturn dX7_readHouse_201 rfl rfl ?_
            exact hΦ _ (Or.inl ⟨5 + q, by omega, fun z => (z.2.2.2.2.2 (by omega)).2 (by unfold knd; rw [if_neg c170, if_neg c182, if_neg c194]), hg, rfl⟩)
set_option maxHeartbeats 4000000 in
set_option maxRecDepth 100000 in
theorem sp_X7_readHouse {l : Launch} {K : mhX} {Φ : mhQ} {S : List mhS} {F : mhF} {I : mhI} {J : mhJ} {P : mhP} (h7 : mhKX7 S) {f n : Nat} {c : Nat → Int32} (hfn : f + n ≤ 240) (hc : ∀ t, t < n → I 24 (nI (f + t)) = c t) (hn6 : n ≤ 60) (hΦ : ∀ (y : Int32) (F2 : mhF), ffA c n y → (y = -9 → F2 21 10 = nI (rdW (c 1)) ∧ F2 21 11 = nI (rdW (c 3))) → (∀ b x, ¬ (b = 21 ∧ 10 ≤ x ∧ x < 12) → F2 b x = F b x) → Φ (some (.int y)) S F2 I J P) : mhOk l K mX7_readHouse [.ref 21, .int (nI f), .int (nI n)] S F I J P Φ := by
  refine mhOk.of (by decide) (by decide) rfl (Nat.le_of_ble_eq_true rfl) ?_
  refine mh_iload_1 dX7_readHouse_0 (q := 1) rfl ?_
  refine mh_iload_2 dX7_readHouse_1 (q := 2) rfl ?_
  refine mh_iadd dX7_readHouse_2 (q := 3) rfl ?_
  rw [nI_add]
  refine mh_istore_3 dX7_readHouse_3 (q := 4) rfl ?_
  refine mh_iload_2 dX7_readHouse_4 (q := 5) rfl ?_
  refine mh_iconst_1 dX7_readHouse_5 (q := 6) rfl ?_
  refine mh_icmp_lt dX7_readHouse_6 (tgt := 20) (q := 9) rfl rfl (fun c6 => ?_) (fun c6 => ?_)
  · skip
    rw [show (1 : Int32) = nI 1 from rfl, nI_ltI (by omega) (by decide)] at c6
    refine mh_iconst_0 dX7_readHouse_20 (q := 21) rfl ?_
    refine mh_ireturn dX7_readHouse_21 rfl rfl ?_
    have en : n = 0 := by omega
    exact hΦ _ _ (Or.inr (Or.inl ⟨fun s hs => by omega, by unfold ffW; rw [if_pos (by omega)]; omega, by rw [en]; rfl⟩)) (fun e => absurd e (by decide)) (fun _ _ _ => rfl)
  · skip
    rw [show (1 : Int32) = nI 1 from rfl, nI_ltI (by omega) (by decide)] at c6
    refine mh_aload_0 dX7_readHouse_9 (q := 10) rfl ?_
    refine mh_getR fl_X7_16 dX7_readHouse_10 (q := 13) rfl (shX7_0 h7) rfl ?_
    refine mh_iload_1 dX7_readHouse_13 (q := 14) rfl ?_
    refine mh_iald dX7_readHouse_14 (q := 15) rfl (shX7_3 h7) (vp_in_nI (by omega) (by decide)) ?_
    rw [show I 24 (nI f) = c 0 from hc 0 (by omega)]
    refine mh_bipush (v := 119) dX7_readHouse_15 (q := 17) rfl (by decide) ?_
    refine mh_icmp_eq dX7_readHouse_17 (tgt := 22) (q := 20) rfl rfl (fun c17 => ?_) (fun c17 => ?_)
    · skip
      have g0 : gdA c 0 := ⟨fun _ => c17, fun e => absurd e (by decide), fun e => absurd e (by decide), fun e => absurd e (by decide), fun e => absurd e (by decide), fun e => absurd e (by decide)⟩
      refine mh_aload_0 dX7_readHouse_22 (q := 23) rfl ?_
      refine mh_aload_0 dX7_readHouse_23 (q := 24) rfl ?_
      refine mh_iload_1 dX7_readHouse_24 (q := 25) rfl ?_
      refine mh_iconst_1 dX7_readHouse_25 (q := 26) rfl ?_
      refine mh_iadd dX7_readHouse_26 (q := 27) rfl ?_
      rw [nI_1]
      refine mh_iload_3 dX7_readHouse_27 (q := 28) rfl ?_
      refine mh_callV2 ca_X7_readHouse_28 (shX7_0 h7) (q := 31) rfl (by simp [Value.category]) ⟨Nat.zero_le _, Nat.zero_le _⟩ ?_
      refine sp_X7_digitAt h7 hfn hc (t := 1) (by decide) ?_
      refine mh_putI (Or.inl fw_X7_143) rfl rfl dX7_readHouse_31 (q := 34) rfl (shX7_0 h7) rfl ?_
      refine mh_aload_0 dX7_readHouse_34 (q := 35) rfl ?_
      refine mh_getI fl_X7_143 dX7_readHouse_35 (q := 38) rfl (shX7_0 h7) rfl ?_
      rw [mhUF_at]
      refine mh_iconst_1 dX7_readHouse_38 (q := 39) rfl ?_
      refine mh_iconst_4 dX7_readHouse_39 (q := 40) rfl ?_
      refine mh_callS3 ca_X7_readHouse_40 (q := 43) rfl (by simp [Value.category]) ⟨Nat.zero_le _, Nat.zero_le _⟩ ?_
      refine sp_X7_within (fun cw1 => ?_) (fun cw1 => ?_)
      · skip
        have d1 := dgR_in (m := 4) (by decide) cw1
        have g1 : gdA c 1 := ⟨fun e => absurd e (by decide), fun _ => d1.2.2, fun e => absurd e (by decide), fun e => absurd e (by decide), fun e => absurd e (by decide), fun e => absurd e (by decide)⟩
        refine mh_if_ne dX7_readHouse_43 (tgt := 48) (q := 46) rfl rfl (fun _ => ?_) (fun hh => False.elim (by revert hh; decide))
        refine mh_iload_2 dX7_readHouse_48 (q := 49) rfl ?_
        refine mh_iconst_3 dX7_readHouse_49 (q := 50) rfl ?_
        refine mh_icmp_lt dX7_readHouse_50 (tgt := 66) (q := 53) rfl rfl (fun c50 => ?_) (fun c50 => ?_)
        · skip
          rw [show (3 : Int32) = nI 3 from rfl, nI_ltI (by omega) (by decide)] at c50
          refine mh_iconst_2 dX7_readHouse_66 (q := 67) rfl ?_
          refine mh_ireturn dX7_readHouse_67 rfl rfl ?_
          have en : n = 2 := by omega
          exact hΦ _ _ (Or.inr (Or.inl ⟨fun s hs => by rcases (show s = 0 ∨ s = 1 by omega) with rfl | rfl <;> assumption, by unfold ffW; rw [if_pos (by omega)]; omega, by rw [en]; rfl⟩)) (fun e => absurd e (by decide)) (fun b x e => mhUF_nk (by omega))
        · skip
          rw [show (3 : Int32) = nI 3 from rfl, nI_ltI (by omega) (by decide)] at c50
          refine mh_aload_0 dX7_readHouse_53 (q := 54) rfl ?_
          refine mh_getR fl_X7_16 dX7_readHouse_54 (q := 57) rfl (shX7_0 h7) rfl ?_
          refine mh_iload_1 dX7_readHouse_57 (q := 58) rfl ?_
          refine mh_iconst_2 dX7_readHouse_58 (q := 59) rfl ?_
          refine mh_iadd dX7_readHouse_59 (q := 60) rfl ?_
          rw [show nI f + 2 = nI (f + 2) from nI_add _ 2]
          refine mh_iald dX7_readHouse_60 (q := 61) rfl (shX7_3 h7) (vp_in_nI (by omega) (by decide)) ?_
          rw [hc 2 (by omega)]
          refine mh_bipush (v := 104) dX7_readHouse_61 (q := 63) rfl (by decide) ?_
          refine mh_icmp_eq dX7_readHouse_63 (tgt := 68) (q := 66) rfl rfl (fun c63 => ?_) (fun c63 => ?_)
          · skip
            have g2 : gdA c 2 := ⟨fun e => absurd e (by decide), fun e => absurd e (by decide), fun _ => c63, fun e => absurd e (by decide), fun e => absurd e (by decide), fun e => absurd e (by decide)⟩
            refine mh_aload_0 dX7_readHouse_68 (q := 69) rfl ?_
            refine mh_aload_0 dX7_readHouse_69 (q := 70) rfl ?_
            refine mh_iload_1 dX7_readHouse_70 (q := 71) rfl ?_
            refine mh_iconst_3 dX7_readHouse_71 (q := 72) rfl ?_
            refine mh_iadd dX7_readHouse_72 (q := 73) rfl ?_
            rw [show nI f + 3 = nI (f + 3) from nI_add _ 3]
            refine mh_iload_3 dX7_readHouse_73 (q := 74) rfl ?_
            refine mh_callV2 ca_X7_readHouse_74 (shX7_0 h7) (q := 77) rfl (by simp [Value.category]) ⟨Nat.zero_le _, Nat.zero_le _⟩ ?_
            refine sp_X7_digitAt h7 hfn hc (t := 3) (by decide) ?_
            refine mh_putI (Or.inl fw_X7_146) rfl rfl dX7_readHouse_77 (q := 80) rfl (shX7_0 h7) rfl ?_
            refine mh_aload_0 dX7_readHouse_80 (q := 81) rfl ?_
            refine mh_getI fl_X7_146 dX7_readHouse_81 (q := 84) rfl (shX7_0 h7) rfl ?_
            rw [mhUF_at]
            refine mh_iconst_1 dX7_readHouse_84 (q := 85) rfl ?_
            refine mh_iconst_3 dX7_readHouse_85 (q := 86) rfl ?_
            refine mh_callS3 ca_X7_readHouse_86 (q := 89) rfl (by simp [Value.category]) ⟨Nat.zero_le _, Nat.zero_le _⟩ ?_
            refine sp_X7_within (fun cw3 => ?_) (fun cw3 => ?_)
            · skip
              have d3 := dgR_in (m := 3) (by decide) cw3
              have g3 : gdA c 3 := ⟨fun e => absurd e (by decide), fun e => absurd e (by decide), fun e => absurd e (by decide), fun _ => d3.2.2, fun e => absurd e (by decide), fun e => absurd e (by decide)⟩
              refine mh_if_ne dX7_readHouse_89 (tgt := 94) (q := 92) rfl rfl (fun _ => ?_) (fun hh => False.elim (by revert hh; decide))
              refine mh_iload_2 dX7_readHouse_94 (q := 95) rfl ?_
              refine mh_iconst_5 dX7_readHouse_95 (q := 96) rfl ?_
              refine mh_icmp_lt dX7_readHouse_96 (tgt := 112) (q := 99) rfl rfl (fun c96 => ?_) (fun c96 => ?_)
              · skip
                rw [show (5 : Int32) = nI 5 from rfl, nI_ltI (by omega) (by decide)] at c96
                refine mh_iconst_4 dX7_readHouse_112 (q := 113) rfl ?_
                refine mh_ireturn dX7_readHouse_113 rfl rfl ?_
                have en : n = 4 := by omega
                exact hΦ _ _ (Or.inr (Or.inl ⟨fun s hs => by rcases (show s = 0 ∨ s = 1 ∨ s = 2 ∨ s = 3 by omega) with rfl | rfl | rfl | rfl <;> assumption, by unfold ffW; rw [if_pos (by omega)]; omega, by rw [en]; rfl⟩)) (fun e => absurd e (by decide)) (fun b x e => by repeat rw [mhUF_nk (by omega)])
              · skip
                rw [show (5 : Int32) = nI 5 from rfl, nI_ltI (by omega) (by decide)] at c96
                refine mh_aload_0 dX7_readHouse_99 (q := 100) rfl ?_
                refine mh_getR fl_X7_16 dX7_readHouse_100 (q := 103) rfl (shX7_0 h7) rfl ?_
                refine mh_iload_1 dX7_readHouse_103 (q := 104) rfl ?_
                refine mh_iconst_4 dX7_readHouse_104 (q := 105) rfl ?_
                refine mh_iadd dX7_readHouse_105 (q := 106) rfl ?_
                rw [show nI f + 4 = nI (f + 4) from nI_add _ 4]
                refine mh_iald dX7_readHouse_106 (q := 107) rfl (shX7_3 h7) (vp_in_nI (by omega) (by decide)) ?_
                rw [hc 4 (by omega)]
                refine mh_bipush (v := 59) dX7_readHouse_107 (q := 109) rfl (by decide) ?_
                refine mh_icmp_eq dX7_readHouse_109 (tgt := 114) (q := 112) rfl rfl (fun c109 => ?_) (fun c109 => ?_)
                · skip
                  have g4 : gdA c 4 := ⟨fun e => absurd e (by decide), fun e => absurd e (by decide), fun e => absurd e (by decide), fun e => absurd e (by decide), fun _ => c109, fun e => absurd e (by decide)⟩
                  have q1 := gd_1 g1
                  have q3 := gd_3 g3
                  have ok := gd_ok g1 g3
                  have v10 : mhUF (mhUF F 21 10 (dgR c n 1)) 21 11 (dgR c n 3) 21 10 = nI (rdW (c 1)) := (mhUF_nk (by decide)).trans (mhUF_at.trans (d1.2.1.trans q1.1))
                  have v11 : mhUF (mhUF F 21 10 (dgR c n 1)) 21 11 (dgR c n 3) 21 11 = nI (rdW (c 3)) := mhUF_at.trans (d3.2.1.trans q3.1)
                  refine mh_iconst_3 dX7_readHouse_114 (q := 115) rfl ?_
                  refine mh_aload_0 dX7_readHouse_115 (q := 116) rfl ?_
                  refine mh_getI fl_X7_143 dX7_readHouse_116 (q := 119) rfl (shX7_0 h7) rfl ?_
                  rw [v10]
                  refine mh_imul dX7_readHouse_119 (q := 120) rfl ?_
                  refine mh_aload_0 dX7_readHouse_120 (q := 121) rfl ?_
                  refine mh_getI fl_X7_146 dX7_readHouse_121 (q := 124) rfl (shX7_0 h7) rfl ?_
                  rw [v11]
                  refine mh_imul dX7_readHouse_124 (q := 125) rfl ?_
                  refine mh_aload_0 dX7_readHouse_125 (q := 126) rfl ?_
                  refine mh_getI fl_X7_143 dX7_readHouse_126 (q := 129) rfl (shX7_0 h7) rfl ?_
                  rw [v10]
                  refine mh_iadd dX7_readHouse_129 (q := 130) rfl ?_
                  refine mh_aload_0 dX7_readHouse_130 (q := 131) rfl ?_
                  refine mh_getI fl_X7_146 dX7_readHouse_131 (q := 134) rfl (shX7_0 h7) rfl ?_
                  rw [v11]
                  refine mh_iadd dX7_readHouse_134 (q := 135) rfl ?_
                  rw [gSd ok]
                  refine mh_istore_4 dX7_readHouse_135 (q := 137) rfl ?_
                  refine mh_iconst_0 dX7_readHouse_137 (q := 138) rfl ?_
                  refine mh_istore_5 dX7_readHouse_138 (q := 140) rfl ?_
                  exact lp_X7_readHouse (kc := _) (ks := _) h7 hfn hc hn6 ok (fun y hy => hΦ y _ hy (fun _ => ⟨v10, v11⟩) (fun b x e => by repeat rw [mhUF_nk (by omega)])) (htL c) 0 _ (Nat.zero_add _) (by omega) (fun s hs => by rcases (show s = 0 ∨ s = 1 ∨ s = 2 ∨ s = 3 ∨ s = 4 by omega) with rfl | rfl | rfl | rfl | rfl <;> assumption)
                · skip
                  refine mh_iconst_4 dX7_readHouse_112 (q := 113) rfl ?_
                  refine mh_ireturn dX7_readHouse_113 rfl rfl ?_
                  exact hΦ _ _ (Or.inl ⟨4, by omega, fun z => c109 (z.2.2.2.2.1 rfl), fun s hs => by rcases (show s = 0 ∨ s = 1 ∨ s = 2 ∨ s = 3 by omega) with rfl | rfl | rfl | rfl <;> assumption, rfl⟩) (fun e => absurd e (by decide)) (fun b x e => by repeat rw [mhUF_nk (by omega)])
            · skip
              refine mh_if_ne dX7_readHouse_89 (tgt := 94) (q := 92) rfl rfl (fun hh => False.elim (by revert hh; decide)) (fun _ => ?_)
              refine mh_iconst_3 dX7_readHouse_92 (q := 93) rfl ?_
              refine mh_ireturn dX7_readHouse_93 rfl rfl ?_
              by_cases c3n : n ≤ 3
              · have en : n = 3 := by omega
                exact hΦ _ _ (Or.inr (Or.inl ⟨fun s hs => by rcases (show s = 0 ∨ s = 1 ∨ s = 2 by omega) with rfl | rfl | rfl <;> assumption, by unfold ffW; rw [if_pos (by omega)]; omega, by rw [en]; rfl⟩)) (fun e => absurd e (by decide)) (fun b x e => by repeat rw [mhUF_nk (by omega)])
              · exact hΦ _ _ (Or.inl ⟨3, by omega, fun z => dgR_out (m := 3) (by decide) (by decide) cw3 (by omega) (z.2.2.2.1 rfl), fun s hs => by rcases (show s = 0 ∨ s = 1 ∨ s = 2 by omega) with rfl | rfl | rfl <;> assumption, rfl⟩) (fun e => absurd e (by decide)) (fun b x e => by repeat rw [mhUF_nk (by omega)])
          · skip
            refine mh_iconst_2 dX7_readHouse_66 (q := 67) rfl ?_
            refine mh_ireturn dX7_readHouse_67 rfl rfl ?_
            exact hΦ _ _ (Or.inl ⟨2, by omega, fun z => c63 (z.2.2.1 rfl), fun s hs => by rcases (show s = 0 ∨ s = 1 by omega) with rfl | rfl <;> assumption, rfl⟩) (fun e => absurd e (by decide)) (fun b x e => mhUF_nk (by omega))
      · skip
        refine mh_if_ne dX7_readHouse_43 (tgt := 48) (q := 46) rfl rfl (fun hh => False.elim (by revert hh; decide)) (fun _ => ?_)
        refine mh_iconst_1 dX7_readHouse_46 (q := 47) rfl ?_
        refine mh_ireturn dX7_readHouse_47 rfl rfl ?_
        by_cases c1n : n ≤ 1
        · have en : n = 1 := by omega
          exact hΦ _ _ (Or.inr (Or.inl ⟨fun s hs => by rcases (show s = 0 by omega) with rfl <;> assumption, by unfold ffW; rw [if_pos (by omega)]; omega, by rw [en]; rfl⟩)) (fun e => absurd e (by decide)) (fun b x e => mhUF_nk (by omega))
        · exact hΦ _ _ (Or.inl ⟨1, by omega, fun z => dgR_out (m := 4) (by decide) (by decide) cw1 (by omega) (z.2.1 rfl), fun s hs => by rcases (show s = 0 by omega) with rfl <;> assumption, rfl⟩) (fun e => absurd e (by decide)) (fun b x e => mhUF_nk (by omega))
    · skip
      refine mh_iconst_0 dX7_readHouse_20 (q := 21) rfl ?_
      refine mh_ireturn dX7_readHouse_21 rfl rfl ?_
      exact hΦ _ _ (Or.inl ⟨0, by omega, fun z => c17 (z.1 rfl), fun s hs => by omega, rfl⟩) (fun e => absurd e (by decide)) (fun _ _ _ => rfl)
set_option maxHeartbeats 4000000 in
set_option maxRecDepth 100000 in
theorem lp_X7_house {l : Launch} {K : mhX} {kc ks : Nat} {Φ : mhQ} {S : List mhS} {J : mhJ} {P : mhP} {F : mhF} {I0 : mhI} (h7 : mhKX7 S) {f n nh : Nat} {c : Nat → Int32} (hfn : f + n ≤ 240) (hn6 : n ≤ 60) (hc : ∀ t, t < n → I0 24 (nI (f + t)) = c t) (ok : htOk c n) (hnh : nh < 3) (hF5 : F 21 5 = nI nh) {o1 o2 o3 o5 o7 : Option Value} (hΦ : ∀ (I : mhI) (o9 : Option Value), (∀ b y, ¬ (27 ≤ b ∧ b ≤ 28 ∧ ∃ k, k < 50 ∧ y = nI (50 * nh + k)) → I b y = I0 b y) → (∀ k, k < htL c → I 27 (nI (50 * nh + k)) = knd (c (5 + k)) ∧ I 28 (nI (50 * nh + k)) = 0) → mhV l K mX7_house kc ks Φ 201 [some (.ref 21), o1, o2, o3, some (.int (nI n)), o5, some (.int (nI f)), o7, some (.int (nI (htL c))), o9] [] S F I J P) : ∀ (m q : Nat) (I : mhI) (o9 : Option Value), q + m = htL c → (∀ b y, ¬ (27 ≤ b ∧ b ≤ 28 ∧ ∃ k, k < 50 ∧ y = nI (50 * nh + k)) → I b y = I0 b y) → (∀ k, k < q → I 27 (nI (50 * nh + k)) = knd (c (5 + k)) ∧ I 28 (nI (50 * nh + k)) = 0) → mhV l K mX7_house kc ks Φ 118 [some (.ref 21), o1, o2, o3, some (.int (nI n)), o5, some (.int (nI f)), o7, some (.int (nI q)), o9] [] S F I J P := by
  have hbd := gBd ok.1
  have hL : htL c = gSides (rdW (c 1)) (rdW (c 3)) := rfl
  have en := ok.2.1
  have e5 : nI n - 5 = nI (htL c) := by rw [show (5 : Int32) = nI 5 from rfl, pk_sub (by omega)]; exact congrArg nI (by omega)
  intro m
  induction m with
  | zero =>
    intro q I o9 hq hf hp
    obtain rfl : q = htL c := by omega
    refine mh_iload_8 dX7_house_118 (q := 120) rfl ?_
    refine mh_iload_4 dX7_house_120 (q := 122) rfl ?_
    refine mh_iconst_5 dX7_house_122 (q := 123) rfl ?_
    refine mh_isub dX7_house_123 (q := 124) rfl ?_
    rw [e5]
    refine mh_icmp_ge dX7_house_124 (tgt := 201) (q := 127) rfl rfl (fun _ => ?_) (fun hh => absurd (nI_le (Nat.le_refl _) (by omega)) hh)
    exact hΦ I _ hf hp
  | succ m ih =>
    intro q I o9 hq hf hp
    have kq := ok.2.2.2.2 q (by omega)
    have eq5 : nI f + 5 = nI (f + 5) := nI_add f 5
    refine mh_iload_8 dX7_house_118 (q := 120) rfl ?_
    refine mh_iload_4 dX7_house_120 (q := 122) rfl ?_
    refine mh_iconst_5 dX7_house_122 (q := 123) rfl ?_
    refine mh_isub dX7_house_123 (q := 124) rfl ?_
    rw [e5]
    refine mh_icmp_ge dX7_house_124 (tgt := 201) (q := 127) rfl rfl (fun hh => absurd hh (nI_ge (by omega) (by omega))) (fun _ => ?_)
    refine mh_aload_0 dX7_house_127 (q := 128) rfl ?_
    refine mh_getR fl_X7_16 dX7_house_128 (q := 131) rfl (shX7_0 h7) rfl ?_
    refine mh_iload_6 dX7_house_131 (q := 133) rfl ?_
    refine mh_iconst_5 dX7_house_133 (q := 134) rfl ?_
    refine mh_iadd dX7_house_134 (q := 135) rfl ?_
    rw [eq5]
    refine mh_iload_8 dX7_house_135 (q := 137) rfl ?_
    refine mh_iadd dX7_house_137 (q := 138) rfl ?_
    rw [nI_add, Nat.add_assoc]
    refine mh_iald dX7_house_138 (q := 139) rfl (shX7_3 h7) (vp_in_nI (by omega) (by decide)) ?_
    rw [hf 24 _ (fun z => absurd z.1 (by decide)), hc _ (by omega)]
    refine mh_istore_9 dX7_house_139 (q := 141) rfl ?_
    refine mh_aload_0 dX7_house_141 (q := 142) rfl ?_
    refine mh_getR fl_X7_25 dX7_house_142 (q := 145) rfl (shX7_0 h7) rfl ?_
    refine mh_bipush (v := 50) dX7_house_145 (q := 147) rfl (by decide) ?_
    refine mh_aload_0 dX7_house_147 (q := 148) rfl ?_
    refine mh_getI fl_X7_112 dX7_house_148 (q := 151) rfl (shX7_0 h7) rfl ?_
    rw [hF5]
    refine mh_imul dX7_house_151 (q := 152) rfl ?_
    refine mh_iload_8 dX7_house_152 (q := 154) rfl ?_
    refine mh_iadd dX7_house_154 (q := 155) rfl ?_
    rw [mh_e50]
    refine mh_iload_9 dX7_house_155 (q := 157) rfl ?_
    refine mh_bipush (v := 109) dX7_house_157 (q := 159) rfl (by decide) ?_
    refine mh_icmp_ne dX7_house_159 (tgt := 166) (q := 162) rfl rfl (fun c159 => ?_) (fun c159 => ?_)
    · skip
      refine mh_iload_9 dX7_house_166 (q := 168) rfl ?_
      refine mh_bipush (v := 103) dX7_house_168 (q := 170) rfl (by decide) ?_
      refine mh_icmp_ne dX7_house_170 (tgt := 177) (q := 173) rfl rfl (fun c170 => ?_) (fun c170 => ?_)
      · skip
        refine mh_iconst_2 dX7_house_177 (q := 178) rfl ?_
        refine mh_iast dX7_house_178 (q := 179) rfl (shX7_6 h7) (by decide) (vp_in_nI (by omega) (by decide)) ?_
        refine mh_aload_0 dX7_house_179 (q := 180) rfl ?_
        refine mh_getR fl_X7_28 dX7_house_180 (q := 183) rfl (shX7_0 h7) rfl ?_
        refine mh_bipush (v := 50) dX7_house_183 (q := 185) rfl (by decide) ?_
        refine mh_aload_0 dX7_house_185 (q := 186) rfl ?_
        refine mh_getI fl_X7_112 dX7_house_186 (q := 189) rfl (shX7_0 h7) rfl ?_
        rw [hF5]
        refine mh_imul dX7_house_189 (q := 190) rfl ?_
        refine mh_iload_8 dX7_house_190 (q := 192) rfl ?_
        refine mh_iadd dX7_house_192 (q := 193) rfl ?_
        rw [mh_e50]
        refine mh_iconst_0 dX7_house_193 (q := 194) rfl ?_
        refine mh_iast dX7_house_194 (q := 195) rfl (shX7_7 h7) (by decide) (vp_in_nI (by omega) (by decide)) ?_
        refine mh_iinc_8 (v := 1) dX7_house_195 (q := 198) rfl (by decide) ?_
        refine mh_goto dX7_house_198 (tgt := 118) rfl ?_
        have c111 : c (5 + q) = 111 := by
          refine Decidable.byContradiction (fun z => kq ?_)
          unfold knd
          rw [if_neg c159, if_neg c170, if_neg z]
        rw [nI_1]
        have ek : knd (c (5 + q)) = 2 := (if_neg c159).trans ((if_neg c170).trans (if_pos c111))
        refine ih (q + 1) _ _ (by omega) (fun b y e => ?_) (fun k hk => ?_)
        · unfold mhUI
          rw [if_neg (fun z => e ⟨by omega, by omega, q, by omega, z.2⟩), if_neg (fun z => e ⟨by omega, by omega, q, by omega, z.2⟩)]
          exact hf b y e
        · rw [mhUI_ne (by decide), mhUI_at (by omega) (by omega), mhUI_at (by omega) (by omega), mhUI_ne (by decide)]
          by_cases e : k = q
          · rw [if_pos ⟨rfl, by omega⟩, if_pos ⟨rfl, by omega⟩, e, ek]
            exact ⟨rfl, rfl⟩
          · rw [if_neg (fun z => e (by omega)), if_neg (fun z => e (by omega))]
            exact hp k (by omega)
      · skip
        refine mh_iconst_1 dX7_house_173 (q := 174) rfl ?_
        refine mh_goto dX7_house_174 (tgt := 178) rfl ?_
        refine mh_iast dX7_house_178 (q := 179) rfl (shX7_6 h7) (by decide) (vp_in_nI (by omega) (by decide)) ?_
        refine mh_aload_0 dX7_house_179 (q := 180) rfl ?_
        refine mh_getR fl_X7_28 dX7_house_180 (q := 183) rfl (shX7_0 h7) rfl ?_
        refine mh_bipush (v := 50) dX7_house_183 (q := 185) rfl (by decide) ?_
        refine mh_aload_0 dX7_house_185 (q := 186) rfl ?_
        refine mh_getI fl_X7_112 dX7_house_186 (q := 189) rfl (shX7_0 h7) rfl ?_
        rw [hF5]
        refine mh_imul dX7_house_189 (q := 190) rfl ?_
        refine mh_iload_8 dX7_house_190 (q := 192) rfl ?_
        refine mh_iadd dX7_house_192 (q := 193) rfl ?_
        rw [mh_e50]
        refine mh_iconst_0 dX7_house_193 (q := 194) rfl ?_
        refine mh_iast dX7_house_194 (q := 195) rfl (shX7_7 h7) (by decide) (vp_in_nI (by omega) (by decide)) ?_
        refine mh_iinc_8 (v := 1) dX7_house_195 (q := 198) rfl (by decide) ?_
        refine mh_goto dX7_house_198 (tgt := 118) rfl ?_
        rw [nI_1]
        have ek : knd (c (5 + q)) = 1 := (if_neg c159).trans (if_pos c170)
        refine ih (q + 1) _ _ (by omega) (fun b y e => ?_) (fun k hk => ?_)
        · unfold mhUI
          rw [if_neg (fun z => e ⟨by omega, by omega, q, by omega, z.2⟩), if_neg (fun z => e ⟨by omega, by omega, q, by omega, z.2⟩)]
          exact hf b y e
        · rw [mhUI_ne (by decide), mhUI_at (by omega) (by omega), mhUI_at (by omega) (by omega), mhUI_ne (by decide)]
          by_cases e : k = q
          · rw [if_pos ⟨rfl, by omega⟩, if_pos ⟨rfl, by omega⟩, e, ek]
            exact ⟨rfl, rfl⟩
          · rw [if_neg (fun z => e (by omega)), if_neg (fun z => e (by omega))]
            exact hp k (by omega)
    · skip
      refine mh_iconst_0 dX7_house_162 (q := 163) rfl ?_
      refine mh_goto dX7_house_163 (tgt := 178) rfl ?_
      refine mh_iast dX7_house_178 (q := 179) rfl (shX7_6 h7) (by decide) (vp_in_nI (by omega) (by decide)) ?_
      refine mh_aload_0 dX7_house_179 (q := 180) rfl ?_
      refine mh_getR fl_X7_28 dX7_house_180 (q := 183) rfl (shX7_0 h7) rfl ?_
      refine mh_bipush (v := 50) dX7_house_183 (q := 185) rfl (by decide) ?_
      refine mh_aload_0 dX7_house_185 (q := 186) rfl ?_
      refine mh_getI fl_X7_112 dX7_house_186 (q := 189) rfl (shX7_0 h7) rfl ?_
      rw [hF5]
      refine mh_imul dX7_house_189 (q := 190) rfl ?_
      refine mh_iload_8 dX7_house_190 (q := 192) rfl ?_
      refine mh_iadd dX7_house_192 (q := 193) rfl ?_
      rw [mh_e50]
      refine mh_iconst_0 dX7_house_193 (q := 194) rfl ?_
      refine mh_iast dX7_house_194 (q := 195) rfl (shX7_7 h7) (by decide) (vp_in_nI (by omega) (by decide)) ?_
      refine mh_iinc_8 (v := 1) dX7_house_195 (q := 198) rfl (by decide) ?_
      refine mh_goto dX7_house_198 (tgt := 118) rfl ?_
      rw [nI_1]
      have ek : knd (c (5 + q)) = 0 := if_pos c159
      refine ih (q + 1) _ _ (by omega) (fun b y e => ?_) (fun k hk => ?_)
      · unfold mhUI
        rw [if_neg (fun z => e ⟨by omega, by omega, q, by omega, z.2⟩), if_neg (fun z => e ⟨by omega, by omega, q, by omega, z.2⟩)]
        exact hf b y e
      · rw [mhUI_ne (by decide), mhUI_at (by omega) (by omega), mhUI_at (by omega) (by omega), mhUI_ne (by decide)]
        by_cases e : k = q
        · rw [if_pos ⟨rfl, by omega⟩, if_pos ⟨rfl, by omega⟩, e, ek]
          exact ⟨rfl, rfl⟩
        · rw [if_neg (fun z => e (by omega)), if_neg (fun z => e (by omega))]
          exact hp k (by omega)
set_option maxHeartbeats 4000000 in
set_option maxRecDepth 100000 in
theorem sp_X7_house {l : Launch} {K : mhX} {Φ : mhQ} {S : List mhS} {F : mhF} {I : mhI} {J : mhJ} {P : mhP} {nh : Nat} {wd hg : Nat → Nat} (hM : mhHR S F I nh wd hg) (hP : mhSm I) {cl : Nat → Nat → Int32} (hcl : ∀ j, j < 4 → ¬ I 22 (nI j) = -9 → ∀ c, c < 60 → I 24 (nI (60 * j + c)) = cl j c) {k so i n : Int32} (hn : ¬ mhSc k → Φ (some (.int (-1))) S (mhUF F 21 0 0) I J P) (hb : mhSc k → ¬ mhSo so → Φ (some (.int (-2))) S (mhUF F 21 0 0) I J P) (hf : ∀ js, js < 4 → k = nI js → mhSo so → ¬ (mhAg (I 22 (nI js)) (I 23 (nI js)) so i n) = 0 → Φ (some (.int (-10 - (mhAg (I 22 (nI js)) (I 23 (nI js)) so i n)))) S (mhUF F 21 0 (mhAg (I 22 (nI js)) (I 23 (nI js)) so i n)) I J P) (hx : ∀ js ii nn y, js < 4 → k = nI js → mhSo so → (mhAg (I 22 (nI js)) (I 23 (nI js)) so i n) = 0 → i = nI ii → n = nI nn → ii + nn ≤ 60 → ffA (fun t => cl js (ii + t)) nn y → ¬ y = -9 → ∀ F2 : mhF, (∀ b x, ¬ (b = 21 ∧ 10 ≤ x ∧ x < 12) → F2 b x = mhUF F 21 0 0 b x) → Φ (some (.int (-100 - y))) S F2 I J P) (hfull : ∀ js ii nn, js < 4 → k = nI js → mhSo so → (mhAg (I 22 (nI js)) (I 23 (nI js)) so i n) = 0 → i = nI ii → n = nI nn → ii + nn ≤ 60 → ffA (fun t => cl js (ii + t)) nn (-9) → nh = 3 → ∀ F2 : mhF, (∀ b x, ¬ (b = 21 ∧ 10 ≤ x ∧ x < 12) → F2 b x = mhUF F 21 0 0 b x) → Φ (some (.int (-4))) S F2 I J P) (ht : ∀ js ii nn, js < 4 → k = nI js → mhSo so → (mhAg (I 22 (nI js)) (I 23 (nI js)) so i n) = 0 → i = nI ii → n = nI nn → ii + nn ≤ 60 → ffA (fun t => cl js (ii + t)) nn (-9) → htOk (fun t => cl js (ii + t)) nn → nh < 3 → ∀ (F2 : mhF) (I2 : mhI), (∀ b x, ¬ (b = 21 ∧ (10 ≤ x ∧ x < 12 ∨ x = 5)) → F2 b x = mhUF F 21 0 0 b x) → F2 21 5 = nI (nh + 1) → I2 25 (nI nh) = nI (rdW (cl js (ii + 1))) → I2 26 (nI nh) = nI (rdW (cl js (ii + 3))) → (∀ k, k < gSides (rdW (cl js (ii + 1))) (rdW (cl js (ii + 3))) → I2 27 (nI (50 * nh + k)) = knd (cl js (ii + (5 + k))) ∧ I2 28 (nI (50 * nh + k)) = 0) → (∀ b y, ¬ (25 ≤ b ∧ b ≤ 26 ∧ y = nI nh) → ¬ (27 ≤ b ∧ b ≤ 28 ∧ ∃ k, k < 50 ∧ y = nI (50 * nh + k)) → I2 b y = I b y) → Φ (some (.int (nI nh))) S F2 I2 J P) : mhOk l K mX7_house [.ref 21, .int k, .int so, .int i, .int n] S F I J P Φ := by
  refine mhOk.of (by decide) (by decide) rfl (Nat.le_of_ble_eq_true rfl) ?_
  refine mh_aload_0 dX7_house_0 (q := 1) rfl ?_
  refine mh_iconst_0 dX7_house_1 (q := 2) rfl ?_
  refine mh_putI (Or.inl fw_X7_102) rfl rfl dX7_house_2 (q := 5) rfl (shX7_0 hM.1) rfl ?_
  refine mh_iload_1 dX7_house_5 (q := 6) rfl ?_
  refine mh_callS1 ca_X7_house_6 (q := 9) rfl (by simp [Value.category]) ⟨Nat.zero_le _, Nat.zero_le _⟩ ?_
  refine sp_X7_isSheet (fun hk => ?_) (fun hk => ?_)
  · skip
    refine mh_if_ne dX7_house_9 (tgt := 14) (q := 12) rfl rfl (fun _ => ?_) (fun hh => False.elim (by revert hh; decide))
    refine mh_iload_2 dX7_house_14 (q := 15) rfl ?_
    refine mh_callS1 ca_X7_house_15 (q := 18) rfl (by simp [Value.category]) ⟨Nat.zero_le _, Nat.zero_le _⟩ ?_
    refine sp_X7_isSort (fun cs => ?_) (fun cs => ?_)
    · skip
      refine mh_if_ne dX7_house_18 (tgt := 24) (q := 21) rfl rfl (fun _ => ?_) (fun hh => False.elim (by revert hh; decide))
      obtain ⟨js, hjs, rfl⟩ := mh_scj hk
      refine mh_aload_0 dX7_house_24 (q := 25) rfl ?_
      refine mh_iload_1 dX7_house_25 (q := 26) rfl ?_
      refine mh_iload_2 dX7_house_26 (q := 27) rfl ?_
      refine mh_iload_3 dX7_house_27 (q := 28) rfl ?_
      refine mh_iload_4 dX7_house_28 (q := 30) rfl ?_
      refine mh_callV4 ca_X7_house_30 (shX7_0 hM.1) (q := 33) rfl (by simp [Value.category]) ⟨Nat.zero_le _, Nat.zero_le _⟩ ?_
      refine sp_X7_against hM.1 (mh_sc4 hk) ?_
      refine mh_istore_5 dX7_house_33 (q := 35) rfl ?_
      refine mh_iload_5 dX7_house_35 (q := 37) rfl ?_
      refine mh_if_eq dX7_house_37 (tgt := 47) (q := 40) rfl rfl (fun c37 => ?_) (fun c37 => ?_)
      · skip
        obtain ⟨hs9, ii, nn0, hin, rfl, rfl⟩ := mhAg_0 c37 (hP js hjs).1 (hP js hjs).2
        have hcc : ∀ t, t < nn0 → I 24 (nI (60 * js + ii + t)) = (fun t => cl js (ii + t)) t := fun t ht => by rw [Nat.add_assoc]; exact hcl js hjs hs9 _ (by omega)
        have h3 := hM.2.1
        refine mh_bipush (v := 60) dX7_house_47 (q := 49) rfl (by decide) ?_
        refine mh_iload_1 dX7_house_49 (q := 50) rfl ?_
        refine mh_imul dX7_house_50 (q := 51) rfl ?_
        refine mh_iload_3 dX7_house_51 (q := 52) rfl ?_
        refine mh_iadd dX7_house_52 (q := 53) rfl ?_
        rw [mh_e60]
        refine mh_istore_6 dX7_house_53 (q := 55) rfl ?_
        refine mh_aload_0 dX7_house_55 (q := 56) rfl ?_
        refine mh_iload_6 dX7_house_56 (q := 58) rfl ?_
        refine mh_iload_4 dX7_house_58 (q := 60) rfl ?_
        refine mh_callV2 ca_X7_house_60 (shX7_0 hM.1) (q := 63) rfl (by simp [Value.category]) ⟨Nat.zero_le _, Nat.zero_le _⟩ ?_
        refine sp_X7_readHouse hM.1 (by omega) hcc (by omega) (fun y F2 hy hw g1 => ?_)
        have g5 : F2 21 5 = nI nh := (g1 21 5 (by decide)).trans ((mhUF_nk (by decide)).trans hM.2.2.1)
        refine mh_istore_7 dX7_house_63 (q := 65) rfl ?_
        refine mh_iload_7 dX7_house_65 (q := 67) rfl ?_
        refine mh_bipush (v := (-9)) dX7_house_67 (q := 69) rfl (by decide) ?_
        refine mh_icmp_eq dX7_house_69 (tgt := 78) (q := 72) rfl rfl (fun c69 => ?_) (fun c69 => ?_)
        · skip
          subst c69
          have cff := hy
          have hok := ff_ok (by omega) cff
          obtain ⟨hw1, hw3⟩ := hw rfl
          refine mh_aload_0 dX7_house_78 (q := 79) rfl ?_
          refine mh_getI fl_X7_112 dX7_house_79 (q := 82) rfl (shX7_0 hM.1) rfl ?_
          rw [g5]
          refine mh_iconst_3 dX7_house_82 (q := 83) rfl ?_
          refine mh_icmp_ne dX7_house_83 (tgt := 89) (q := 86) rfl rfl (fun c83 => ?_) (fun c83 => ?_)
          · skip
            rw [show (3 : Int32) = nI 3 from rfl, nI_eq (by omega) (by decide)] at c83
            refine mh_aload_0 dX7_house_89 (q := 90) rfl ?_
            refine mh_getR fl_X7_19 dX7_house_90 (q := 93) rfl (shX7_0 hM.1) rfl ?_
            refine mh_aload_0 dX7_house_93 (q := 94) rfl ?_
            refine mh_getI fl_X7_112 dX7_house_94 (q := 97) rfl (shX7_0 hM.1) rfl ?_
            rw [g5]
            refine mh_aload_0 dX7_house_97 (q := 98) rfl ?_
            refine mh_getI fl_X7_143 dX7_house_98 (q := 101) rfl (shX7_0 hM.1) rfl ?_
            rw [hw1]
            refine mh_iast dX7_house_101 (q := 102) rfl (shX7_4 hM.1) (by decide) (vp_in_nI (by omega) (by decide)) ?_
            refine mh_aload_0 dX7_house_102 (q := 103) rfl ?_
            refine mh_getR fl_X7_22 dX7_house_103 (q := 106) rfl (shX7_0 hM.1) rfl ?_
            refine mh_aload_0 dX7_house_106 (q := 107) rfl ?_
            refine mh_getI fl_X7_112 dX7_house_107 (q := 110) rfl (shX7_0 hM.1) rfl ?_
            rw [g5]
            refine mh_aload_0 dX7_house_110 (q := 111) rfl ?_
            refine mh_getI fl_X7_146 dX7_house_111 (q := 114) rfl (shX7_0 hM.1) rfl ?_
            rw [hw3]
            refine mh_iast dX7_house_114 (q := 115) rfl (shX7_5 hM.1) (by decide) (vp_in_nI (by omega) (by decide)) ?_
            refine mh_iconst_0 dX7_house_115 (q := 116) rfl ?_
            refine mh_istore_8 dX7_house_116 (q := 118) rfl ?_
            refine lp_X7_house (kc := _) (ks := _) hM.1 (f := 60 * js + ii) (n := nn0) (nh := nh) (c := fun t => cl js (ii + t)) (by omega) (by omega) (fun t ht => ?_) hok (by omega) g5 (fun I2 o9 hf2 hp2 => ?_) (htL (fun t => cl js (ii + t))) 0 _ _ (Nat.zero_add _) (fun _ _ _ => rfl) (fun k hk => absurd hk (Nat.not_lt_zero k))
            · rw [mhUI_ne (by decide), mhUI_ne (by decide)]; exact hcc t ht
            refine mh_aload_0 dX7_house_201 (q := 202) rfl ?_
            refine mh_dupr dX7_house_202 (q := 203) rfl ?_
            refine mh_getI fl_X7_112 dX7_house_203 (q := 206) rfl (shX7_0 hM.1) rfl ?_
            rw [g5]
            refine mh_iconst_1 dX7_house_206 (q := 207) rfl ?_
            refine mh_iadd dX7_house_207 (q := 208) rfl ?_
            rw [nI_1]
            refine mh_putI (Or.inl fw_X7_112) rfl rfl dX7_house_208 (q := 211) rfl (shX7_0 hM.1) rfl ?_
            refine mh_aload_0 dX7_house_211 (q := 212) rfl ?_
            refine mh_getI fl_X7_112 dX7_house_212 (q := 215) rfl (shX7_0 hM.1) rfl ?_
            rw [mhUF_at]
            refine mh_iconst_1 dX7_house_215 (q := 216) rfl ?_
            refine mh_isub dX7_house_216 (q := 217) rfl ?_
            rw [show nI (nh + 1) - 1 = nI nh from by rw [← nI_1]; grind]
            refine mh_ireturn dX7_house_217 rfl rfl ?_
            refine ht js ii nn0 hjs rfl cs c37 rfl rfl hin cff hok (by omega) _ I2 (fun b x e => (mhUF_nk (by omega)).trans (g1 b x (by omega))) mhUF_at ?_ ?_ hp2 (fun b y e1 e2 => (hf2 b y e2).trans ?_)
            · rw [hf2 25 _ (fun z => absurd z.1 (by decide)), mhUI_ne (by decide)]; exact mh_at3
            · rw [hf2 26 _ (fun z => absurd z.1 (by decide))]; exact mh_at3
            · unfold mhUI
              rw [if_neg (fun z => e1 ⟨by omega, by omega, z.2⟩), if_neg (fun z => e1 ⟨by omega, by omega, z.2⟩)]
          · skip
            rw [show (3 : Int32) = nI 3 from rfl, nI_eq (by omega) (by decide)] at c83
            refine mh_bipush (v := (-4)) dX7_house_86 (q := 88) rfl (by decide) ?_
            refine mh_ireturn dX7_house_88 rfl rfl ?_
            exact hfull js ii nn0 hjs rfl cs c37 rfl rfl hin cff c83 F2 g1
        · skip
          refine mh_bipush (v := (-100)) dX7_house_72 (q := 74) rfl (by decide) ?_
          refine mh_iload_7 dX7_house_74 (q := 76) rfl ?_
          refine mh_isub dX7_house_76 (q := 77) rfl ?_
          refine mh_ireturn dX7_house_77 rfl rfl ?_
          exact hx js ii nn0 y hjs rfl cs c37 rfl rfl hin hy c69 F2 g1
      · skip
        refine mh_aload_0 dX7_house_40 (q := 41) rfl ?_
        refine mh_iload_5 dX7_house_41 (q := 43) rfl ?_
        refine mh_callV1 ca_X7_house_43 (shX7_0 hM.1) (q := 46) rfl (by simp [Value.category]) ⟨Nat.zero_le _, Nat.zero_le _⟩ ?_
        refine sp_X7_fails hM.1 ?_
        rw [mhUF_uu]
        refine mh_ireturn dX7_house_46 rfl rfl ?_
        exact hf js hjs rfl cs c37
    · skip
      refine mh_if_ne dX7_house_18 (tgt := 24) (q := 21) rfl rfl (fun hh => False.elim (by revert hh; decide)) (fun _ => ?_)
      refine mh_bipush (v := (-2)) dX7_house_21 (q := 23) rfl (by decide) ?_
      refine mh_ireturn dX7_house_23 rfl rfl ?_
      exact hb hk cs
  · skip
    refine mh_if_ne dX7_house_9 (tgt := 14) (q := 12) rfl rfl (fun hh => False.elim (by revert hh; decide)) (fun _ => ?_)
    refine mh_iconst_m1 dX7_house_12 (q := 13) rfl ?_
    refine mh_ireturn dX7_house_13 rfl rfl ?_
    exact hn hk
