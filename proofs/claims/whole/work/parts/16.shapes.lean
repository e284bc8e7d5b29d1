def mhRX0 : List (Option (Option Nat)) := [some (some (11)), none, some (some (12))]
/-- MirrorHouse$Change: an object and its arrays -/
def mhKX0 (S : List mhS) : Prop := S[10]? = some (.inr (0, mhRX0)) ∧ S[11]? = some (.inl (0, 10)) ∧ S[12]? = some (.inl (0, 1024))
theorem shX0_0 {S : List mhS} (h : mhKX0 S) : S[10]? = some (.inr (0, mhRX0)) := h.1
theorem shX0_1 {S : List mhS} (h : mhKX0 S) : S[11]? = some (.inl (0, 10)) := h.2.1
theorem shX0_2 {S : List mhS} (h : mhKX0 S) : S[12]? = some (.inl (0, 1024)) := h.2.2
def mhRX1 (a : Nat) : List (Option (Option Nat)) := [none, none, none, none, some (some (a + 1)), some (some (a + 2)), some (some (a + 3)), some (some (a + 4)), some (some (a + 5)), none, none, none, none, some (some (a + 6)), some (some (a + 7)), some (some (a + 8)), some (some (a + 9)), some (some (a + 10))]
/-- MirrorHouse$House: an object and its arrays -/
def mhKX1 (S : List mhS) (a : Nat) : Prop := S[a]? = some (.inr (1, mhRX1 a)) ∧ S[a + 1]? = some (.inl (0, 43)) ∧ S[a + 2]? = some (.inl (0, 43)) ∧ S[a + 3]? = some (.inl (0, 43)) ∧ S[a + 4]? = some (.inl (0, 43)) ∧ S[a + 5]? = some (.inl (0, 43)) ∧ S[a + 6]? = some (.inl (0, 72)) ∧ S[a + 7]? = some (.inl (0, 43)) ∧ S[a + 8]? = some (.inl (0, 4)) ∧ S[a + 9]? = some (.inl (0, 4)) ∧ S[a + 10]? = some (.inl (0, 3))
theorem shX1_0 {S : List mhS} {a : Nat} (h : mhKX1 S a) : S[a]? = some (.inr (1, mhRX1 a)) := h.1
theorem shX1_1 {S : List mhS} {a : Nat} (h : mhKX1 S a) : S[a + 1]? = some (.inl (0, 43)) := h.2.1
theorem shX1_2 {S : List mhS} {a : Nat} (h : mhKX1 S a) : S[a + 2]? = some (.inl (0, 43)) := h.2.2.1
theorem shX1_3 {S : List mhS} {a : Nat} (h : mhKX1 S a) : S[a + 3]? = some (.inl (0, 43)) := h.2.2.2.1
theorem shX1_4 {S : List mhS} {a : Nat} (h : mhKX1 S a) : S[a + 4]? = some (.inl (0, 43)) := h.2.2.2.2.1
theorem shX1_5 {S : List mhS} {a : Nat} (h : mhKX1 S a) : S[a + 5]? = some (.inl (0, 43)) := h.2.2.2.2.2.1
theorem shX1_6 {S : List mhS} {a : Nat} (h : mhKX1 S a) : S[a + 6]? = some (.inl (0, 72)) := h.2.2.2.2.2.2.1
theorem shX1_7 {S : List mhS} {a : Nat} (h : mhKX1 S a) : S[a + 7]? = some (.inl (0, 43)) := h.2.2.2.2.2.2.2.1
theorem shX1_8 {S : List mhS} {a : Nat} (h : mhKX1 S a) : S[a + 8]? = some (.inl (0, 4)) := h.2.2.2.2.2.2.2.2.1
theorem shX1_9 {S : List mhS} {a : Nat} (h : mhKX1 S a) : S[a + 9]? = some (.inl (0, 4)) := h.2.2.2.2.2.2.2.2.2.1
theorem shX1_10 {S : List mhS} {a : Nat} (h : mhKX1 S a) : S[a + 10]? = some (.inl (0, 3)) := h.2.2.2.2.2.2.2.2.2.2
def mhRX2 (a : Nat) : List (Option (Option Nat)) := [none, none, none, none, none]
/-- MirrorHouse$Report: an object and its arrays -/
def mhKX2 (S : List mhS) (a : Nat) : Prop := S[a]? = some (.inr (2, mhRX2 a))
theorem shX2_0 {S : List mhS} {a : Nat} (h : mhKX2 S a) : S[a]? = some (.inr (2, mhRX2 a)) := h
def mhRX3 (a : Nat) : List (Option (Option Nat)) := [some (some (a + 1)), none, none]
/-- MirrorHouse$Sheet: an object and its arrays -/
def mhKX3 (S : List mhS) (a : Nat) : Prop := S[a]? = some (.inr (3, mhRX3 a)) ∧ S[a + 1]? = some (.inl (0, 60))
theorem shX3_0 {S : List mhS} {a : Nat} (h : mhKX3 S a) : S[a]? = some (.inr (3, mhRX3 a)) := h.1
theorem shX3_1 {S : List mhS} {a : Nat} (h : mhKX3 S a) : S[a + 1]? = some (.inl (0, 60)) := h.2
def mhRX4 : List (Option (Option Nat)) := [none, none, none, none, none, none, none, none, some (some (7)), some (some (8)), some (some (9))]
/-- MirrorHouse$Sight: an object and its arrays -/
def mhKX4 (S : List mhS) : Prop := S[6]? = some (.inr (4, mhRX4)) ∧ S[7]? = some (.inl (0, 3)) ∧ S[8]? = some (.inl (0, 3)) ∧ S[9]? = some (.inl (0, 3))
theorem shX4_0 {S : List mhS} (h : mhKX4 S) : S[6]? = some (.inr (4, mhRX4)) := h.1
theorem shX4_1 {S : List mhS} (h : mhKX4 S) : S[7]? = some (.inl (0, 3)) := h.2.1
theorem shX4_2 {S : List mhS} (h : mhKX4 S) : S[8]? = some (.inl (0, 3)) := h.2.2.1
theorem shX4_3 {S : List mhS} (h : mhKX4 S) : S[9]? = some (.inl (0, 3)) := h.2.2.2
def mhRX5 (a : Nat) : List (Option (Option Nat)) := [none, none, none, none, none, none, none, some (some (a + 1))]
/-- MirrorHouse$Walker: an object and its arrays -/
def mhKX5 (S : List mhS) (a : Nat) : Prop := S[a]? = some (.inr (5, mhRX5 a)) ∧ S[a + 1]? = some (.inl (0, 43))
theorem shX5_0 {S : List mhS} {a : Nat} (h : mhKX5 S a) : S[a]? = some (.inr (5, mhRX5 a)) := h.1
theorem shX5_1 {S : List mhS} {a : Nat} (h : mhKX5 S a) : S[a + 1]? = some (.inl (0, 43)) := h.2
def mhRX6 : List (Option (Option Nat)) := [some (some (1)), some (some (2)), some (some (3)), some (some (4)), some (some (5)), some (some 6), some (some 10), none, none, none, none, none, none]
/-- MirrorHouse: an object and its arrays -/
def mhKX6 (S : List mhS) : Prop := S[0]? = some (.inr (6, mhRX6)) ∧ S[1]? = some (.inl (3, 4)) ∧ S[2]? = some (.inl (4, 3)) ∧ S[3]? = some (.inl (5, 12)) ∧ S[4]? = some (.inl (6, 8)) ∧ S[5]? = some (.inl (0, 30))
theorem shX6_0 {S : List mhS} (h : mhKX6 S) : S[0]? = some (.inr (6, mhRX6)) := h.1
theorem shX6_1 {S : List mhS} (h : mhKX6 S) : S[1]? = some (.inl (3, 4)) := h.2.1
theorem shX6_2 {S : List mhS} (h : mhKX6 S) : S[2]? = some (.inl (4, 3)) := h.2.2.1
theorem shX6_3 {S : List mhS} (h : mhKX6 S) : S[3]? = some (.inl (5, 12)) := h.2.2.2.1
theorem shX6_4 {S : List mhS} (h : mhKX6 S) : S[4]? = some (.inl (6, 8)) := h.2.2.2.2.1
theorem shX6_5 {S : List mhS} (h : mhKX6 S) : S[5]? = some (.inl (0, 30)) := h.2.2.2.2.2
def mhRX7 : List (Option (Option Nat)) := [none, none, some (some (22)), some (some (23)), some (some (24)), none, some (some (25)), some (some (26)), some (some (27)), some (some (28)), none, none, some (some (29)), some (some (30)), some (some (31)), none, none, none, none, none, none, some (some (32)), some (some (33)), some (some (34)), some (some (35)), some (some (36)), none, some (some (37)), none, some (some (38)), some (some (39)), some (some (40)), some (some (41)), some (some (42)), some (some (43)), some (some (44)), some (some (45)), some (some (46)), some (some (47)), none, none, some (some (48)), none, some (some (49)), some (some (50)), some (some (51))]
/-- MirrorHouseModel: an object and its arrays -/
def mhKX7 (S : List mhS) : Prop := S[21]? = some (.inr (7, mhRX7)) ∧ S[22]? = some (.inl (0, 4)) ∧ S[23]? = some (.inl (0, 4)) ∧ S[24]? = some (.inl (0, 240)) ∧ S[25]? = some (.inl (0, 3)) ∧ S[26]? = some (.inl (0, 3)) ∧ S[27]? = some (.inl (0, 150)) ∧ S[28]? = some (.inl (0, 150)) ∧ S[29]? = some (.inl (0, 3)) ∧ S[30]? = some (.inl (0, 3)) ∧ S[31]? = some (.inl (0, 3)) ∧ S[32]? = some (.inl (0, 12)) ∧ S[33]? = some (.inl (0, 12)) ∧ S[34]? = some (.inl (0, 12)) ∧ S[35]? = some (.inl (0, 12)) ∧ S[36]? = some (.inl (2, 12)) ∧ S[37]? = some (.inl (0, 30)) ∧ S[38]? = some (.inl (0, 8)) ∧ S[39]? = some (.inl (0, 8)) ∧ S[40]? = some (.inl (0, 8)) ∧ S[41]? = some (.inl (0, 8)) ∧ S[42]? = some (.inl (0, 8)) ∧ S[43]? = some (.inl (0, 8)) ∧ S[44]? = some (.inl (0, 8)) ∧ S[45]? = some (.inl (0, 8)) ∧ S[46]? = some (.inl (0, 400)) ∧ S[47]? = some (.inl (0, 24)) ∧ S[48]? = some (.inl (0, 8)) ∧ S[49]? = some (.inl (0, 10)) ∧ S[50]? = some (.inl (0, 50)) ∧ S[51]? = some (.inl (1, 1024))
theorem shX7_0 {S : List mhS} (h : mhKX7 S) : S[21]? = some (.inr (7, mhRX7)) := h.1
theorem shX7_1 {S : List mhS} (h : mhKX7 S) : S[22]? = some (.inl (0, 4)) := h.2.1
theorem shX7_2 {S : List mhS} (h : mhKX7 S) : S[23]? = some (.inl (0, 4)) := h.2.2.1
theorem shX7_3 {S : List mhS} (h : mhKX7 S) : S[24]? = some (.inl (0, 240)) := h.2.2.2.1
theorem shX7_4 {S : List mhS} (h : mhKX7 S) : S[25]? = some (.inl (0, 3)) := h.2.2.2.2.1
theorem shX7_5 {S : List mhS} (h : mhKX7 S) : S[26]? = some (.inl (0, 3)) := h.2.2.2.2.2.1
theorem shX7_6 {S : List mhS} (h : mhKX7 S) : S[27]? = some (.inl (0, 150)) := h.2.2.2.2.2.2.1
theorem shX7_7 {S : List mhS} (h : mhKX7 S) : S[28]? = some (.inl (0, 150)) := h.2.2.2.2.2.2.2.1
theorem shX7_8 {S : List mhS} (h : mhKX7 S) : S[29]? = some (.inl (0, 3)) := h.2.2.2.2.2.2.2.2.1
theorem shX7_9 {S : List mhS} (h : mhKX7 S) : S[30]? = some (.inl (0, 3)) := h.2.2.2.2.2.2.2.2.2.1
theorem shX7_10 {S : List mhS} (h : mhKX7 S) : S[31]? = some (.inl (0, 3)) := h.2.2.2.2.2.2.2.2.2.2.1
theorem shX7_11 {S : List mhS} (h : mhKX7 S) : S[32]? = some (.inl (0, 12)) := h.2.2.2.2.2.2.2.2.2.2.2.1
theorem shX7_12 {S : List mhS} (h : mhKX7 S) : S[33]? = some (.inl (0, 12)) := h.2.2.2.2.2.2.2.2.2.2.2.2.1
theorem shX7_13 {S : List mhS} (h : mhKX7 S) : S[34]? = some (.inl (0, 12)) := h.2.2.2.2.2.2.2.2.2.2.2.2.2.1
theorem shX7_14 {S : List mhS} (h : mhKX7 S) : S[35]? = some (.inl (0, 12)) := h.2.2.2.2.2.2.2.2.2.2.2.2.2.2.1
theorem shX7_15 {S : List mhS} (h : mhKX7 S) : S[36]? = some (.inl (2, 12)) := h.2.2.2.2.2.2.2.2.2.2.2.2.2.2.2.1
theorem shX7_16 {S : List mhS} (h : mhKX7 S) : S[37]? = some (.inl (0, 30)) := h.2.2.2.2.2.2.2.2.2.2.2.2.2.2.2.2.1
theorem shX7_17 {S : List mhS} (h : mhKX7 S) : S[38]? = some (.inl (0, 8)) := h.2.2.2.2.2.2.2.2.2.2.2.2.2.2.2.2.2.1
theorem shX7_18 {S : List mhS} (h : mhKX7 S) : S[39]? = some (.inl (0, 8)) := h.2.2.2.2.2.2.2.2.2.2.2.2.2.2.2.2.2.2.1
theorem shX7_19 {S : List mhS} (h : mhKX7 S) : S[40]? = some (.inl (0, 8)) := h.2.2.2.2.2.2.2.2.2.2.2.2.2.2.2.2.2.2.2.1
theorem shX7_20 {S : List mhS} (h : mhKX7 S) : S[41]? = some (.inl (0, 8)) := h.2.2.2.2.2.2.2.2.2.2.2.2.2.2.2.2.2.2.2.2.1
theorem shX7_21 {S : List mhS} (h : mhKX7 S) : S[42]? = some (.inl (0, 8)) := h.2.2.2.2.2.2.2.2.2.2.2.2.2.2.2.2.2.2.2.2.2.1
theorem shX7_22 {S : List mhS} (h : mhKX7 S) : S[43]? = some (.inl (0, 8)) := h.2.2.2.2.2.2.2.2.2.2.2.2.2.2.2.2.2.2.2.2.2.2.1
theorem shX7_23 {S : List mhS} (h : mhKX7 S) : S[44]? = some (.inl (0, 8)) := h.2.2.2.2.2.2.2.2.2.2.2.2.2.2.2.2.2.2.2.2.2.2.2.1
theorem shX7_24 {S : List mhS} (h : mhKX7 S) : S[45]? = some (.inl (0, 8)) := h.2.2.2.2.2.2.2.2.2.2.2.2.2.2.2.2.2.2.2.2.2.2.2.2.1
theorem shX7_25 {S : List mhS} (h : mhKX7 S) : S[46]? = some (.inl (0, 400)) := h.2.2.2.2.2.2.2.2.2.2.2.2.2.2.2.2.2.2.2.2.2.2.2.2.2.1
theorem shX7_26 {S : List mhS} (h : mhKX7 S) : S[47]? = some (.inl (0, 24)) := h.2.2.2.2.2.2.2.2.2.2.2.2.2.2.2.2.2.2.2.2.2.2.2.2.2.2.1
theorem shX7_27 {S : List mhS} (h : mhKX7 S) : S[48]? = some (.inl (0, 8)) := h.2.2.2.2.2.2.2.2.2.2.2.2.2.2.2.2.2.2.2.2.2.2.2.2.2.2.2.1
theorem shX7_28 {S : List mhS} (h : mhKX7 S) : S[49]? = some (.inl (0, 10)) := h.2.2.2.2.2.2.2.2.2.2.2.2.2.2.2.2.2.2.2.2.2.2.2.2.2.2.2.2.1
theorem shX7_29 {S : List mhS} (h : mhKX7 S) : S[50]? = some (.inl (0, 50)) := h.2.2.2.2.2.2.2.2.2.2.2.2.2.2.2.2.2.2.2.2.2.2.2.2.2.2.2.2.2.1
theorem shX7_30 {S : List mhS} (h : mhKX7 S) : S[51]? = some (.inl (1, 1024)) := h.2.2.2.2.2.2.2.2.2.2.2.2.2.2.2.2.2.2.2.2.2.2.2.2.2.2.2.2.2.2
theorem wd_objI : Cond.instanceMethod Lib.objectInit ∈ mhT := wd_83
theorem wd_objC : Cond.code Lib.objectInit ⟨#[0xb1]⟩ 1 none ∈ mhT := wd_84
theorem wd_absS : Cond.static Lib.Math.abs.name ∈ mhT := wd_433
theorem wd_absC : Cond.code Lib.Math.abs.name Lib.Math.abs.code 1 (some .int) ∈ mhT := wd_434
theorem wd_absI : Cond.initialized "java/lang/Math" ∈ mhT := wd_72
theorem wd_arcN : Cond.native arraycopyName ∈ mhT := wd_529
theorem wd_arcS : Cond.static arraycopyName ∈ mhT := wd_528
theorem wd_arcI : Cond.initialized "java/lang/System" ∈ mhT := wd_74
theorem wd_arcL_X6_235 : Cond.methodLink RX6 235 arraycopyName ∈ mhT := wd_527
theorem wd_arcL_X1_117 : Cond.methodLink RX1 117 arraycopyName ∈ mhT := wd_670
theorem wd_absL_X4_52 : Cond.methodLink RX4 52 Lib.Math.abs.name ∈ mhT := wd_432
