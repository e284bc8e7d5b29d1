def mhRX0 : List (Option (Option Nat)) := [some (some (11)), none, some (some (12))]
/-- MirrorHouse$Change: an object and its arrays -/
def mhKX0 (S : List mhS) : Prop := S[10]? = some (.inr (0, mhRX0)) ∧ S[11]? = some (.inl (0, 10)) ∧ S[12]? = some (.inl (0, 1024))
theorem shX0_0 {S : List mhS} (h : mhKX0 S) : S[10]? = some (.inr (0, mhRX0)) := h.1
theorem shX0_1 {S : List mhS} (h : mhKX0 S) : S[11]? = some (.inl (0, 10)) := h.2.1
theorem shX0_2 {S : List mhS} (h : mhKX0 S) : S[12]? = some (.inl (0, 1024)) := h.2.2
def mhRX1 (a : Nat) : List (Option (Option Nat)) := [none, none, none, none, some (some (a + 1)), some (some (a + 2)), some (some (a + 3)), some (some (a + 4)), some (some (a + 5)), none, none, none, none, some (some (a + 6)), some (some (a + 7)), some (some (a + 8)), some (some (a + 9)), some (some (a + 10))]
/-- MirrorHouse$House: an object and its arrays -/
def mhKX1 (S : List mhS) (a : Nat) : Prop := S[a]? = some (.inr (1, mhRX1 a)) ∧ S[a + 1]? = some (.inl (0, 43)) ∧ S[a + 2]? = some (.inl (0, 43)) ∧ S[a + 3]? = some (.inl (0, 43)) ∧ S[a + 4]? = some (.inl (0, 43)) ∧ S[a + 5]? = some (.inl (0, 43)) ∧ S[a + 6]? = some (.inl (0, 72)) ∧ S[a + 7]? = some (.inl (0, 43)) ∧ S[a + 8]? = some (.inl (0, 4)) ∧ S[a + 9]? = some (.inl (0, 4)) ∧ S[a + 10]? = some (.inl (0, 3))
theorem shX1_0 {S : List mhS} {a : Nat} (h : mhKX1 S a) : S[a]? = some (.inr (1, mhRX1 a)) := h.1
theorem shX1_1 {S : List mhS} {a : Nat} (h : mhKX1 S a) : S[a + 1]? = some (.inl (0, 43)) := h.2.1
theorem shX1_2 {S : List mhS} {a : Nat} (h : mhKX1 S a) : S[a + 2]? = some (.inl (0, 43)) := h.2.2.1
theorem shX1_3 {S : List mhS} {a : Nat} (h : mhKX1 S a) : S[a + 3]? = some (.inl (0, 43)) := h.2.2.2.1
theorem shX1_4 {S : List mhS} {a : Nat} (h : mhKX1 S a) : S[a + 4]? = some (.inl (0, 43)) := h.2.2.2.2.1
theorem shX1_5 {S : List mhS} {a : Nat} (h : mhKX1 S a) : S[a + 5]? = some (.inl (0, 43)) := h.2.2.2.2.2.1
theorem shX1_6 {S : List mhS} {a : Nat} (h : mhKX1 S a) : S[a + 6]? = some (.inl (0, 72)) := h.2.2.2.2.2.2.1
theorem shX1_7 {S : List mhS} {a : Nat} (h : mhKX1 S a) : S[a + 7]? = some (.inl (0, 43)) := h.2.2.2.2.2.2.2.1
theorem shX1_8 {S : List mhS} {a : Nat} (h : mhKX1 S a) : S[a + 8]? = some (.inl (0, 4)) := h.2.2.2.2.2.2.2.2.1
theorem shX1_9 {S : List mhS} {a : Nat} (h : mhKX1 S a) : S[a + 9]? = some (.inl (0, 4)) := h.2.2.2.2.2.2.2.2.2.1
theorem shX1_10 {S : List mhS} {a : Nat} (h : mhKX1 S a) : S[a + 10]? = some (.inl (0, 3)) := h.2.2.2.2.2.2.2.2.2.2
def mhRX2 (a : Nat) : List (Option (Option Nat)) := [none, none, none, none, none]
/-- MirrorHouse$Report: an object and its arrays -/
def mhKX2 (S : List mhS) (a : Nat) : Prop := S[a]? = some (.inr (2, mhRX2 a))
theorem shX2_0 {S : List mhS} {a : Nat} (h : mhKX2 S a) : S[a]? = some (.inr (2, mhRX2 a)) := h
def mhRX3 (a : Nat) : List (Option (Option Nat)) := [some (some (a + 1)), none, none]
/-- MirrorHouse$Sheet: an object and its arrays -/
def mhKX3 (S : List mhS) (a : Nat) : Prop := S[a]? = some (.inr (3, mhRX3 a)) ∧ S[a + 1]? = some (.inl (0, 60))
theorem shX3_0 {S : List mhS} {a : Nat} (h : mhKX3 S a) : S[a]? = some (.inr (3, mhRX3 a)) := h.1
theorem shX3_1 {S : List mhS} {a : Nat} (h : mhKX3 S a) : S[a + 1]? = some (.inl (0, 60)) := h.2
def mhRX4 : List (Option (Option Nat)) := [none, none, none, none, none, none, none, none, some (some (7)), some (some (8)), some (some (9))]
/-- MirrorHouse$Sight: an object and its arrays -/
def mhKX4 (S : List mhS) : Prop := S[6]? = some (.inr (4, mhRX4)) ∧ S[7]? = some (.inl (0, 3)) ∧ S[8]? = some (.inl (0, 3)) ∧ S[9]? = some (.inl (0, 3))
theorem shX4_0 {S : List mhS} (h : mhKX4 S) : S[6]? = some (.inr (4, mhRX4)) := h.1
theorem shX4_1 {S : List mhS} (h : mhKX4 S) : S[7]? = some (.inl (0, 3)) := h.2.1
theorem shX4_2 {S : List mhS} (h : mhKX4 S) : S[8]? = some (.inl (0, 3)) := h.2.2.1
theorem shX4_3 {S : List mhS} (h : mhKX4 S) : S[9]? = some (.inl (0, 3)) := h.2.2.2
def mhRX6 : List (Option (Option Nat)) := [some (some (1)), some (some (2)), some (some (3)), some (some (4)), some (some (5)), some (some 6), some (some 10), none, none, none, none, none, none]
/-- MirrorHouse: an object and its arrays -/
def mhKX6 (S : List mhS) : Prop := S[0]? = some (.inr (5, mhRX6)) ∧ S[1]? = some (.inl (3, 4)) ∧ S[2]? = some (.inl (4, 3)) ∧ S[3]? = some (.inl (5, 12)) ∧ S[4]? = some (.inl (6, 8)) ∧ S[5]? = some (.inl (0, 30))
theorem shX6_0 {S : List mhS} (h : mhKX6 S) : S[0]? = some (.inr (5, mhRX6)) := h.1
theorem shX6_1 {S : List mhS} (h : mhKX6 S) : S[1]? = some (.inl (3, 4)) := h.2.1
theorem shX6_2 {S : List mhS} (h : mhKX6 S) : S[2]? = some (.inl (4, 3)) := h.2.2.1
theorem shX6_3 {S : List mhS} (h : mhKX6 S) : S[3]? = some (.inl (5, 12)) := h.2.2.2.1
theorem shX6_4 {S : List mhS} (h : mhKX6 S) : S[4]? = some (.inl (6, 8)) := h.2.2.2.2.1
theorem shX6_5 {S : List mhS} (h : mhKX6 S) : S[5]? = some (.inl (0, 30)) := h.2.2.2.2.2
theorem wd_objI : Cond.instanceMethod Lib.objectInit ∈ mhT := wd_28
theorem wd_objC : Cond.code Lib.objectInit ⟨#[0xb1]⟩ 1 none ∈ mhT := wd_29
theorem wd_absS : Cond.static Lib.Math.abs.name ∈ mhT := wd_322
theorem wd_absC : Cond.code Lib.Math.abs.name Lib.Math.abs.code 1 (some .int) ∈ mhT := wd_323
theorem wd_absI : Cond.initialized "java/lang/Math" ∈ mhT := wd_20
theorem wd_absL_X4_52 : Cond.methodLink RX4 52 Lib.Math.abs.name ∈ mhT := wd_321
