/-! where rooms and sides are, in closed words -/
def gSide (w h r d : Nat) : Nat := if r % 2 = 0 then 3 * (r / 2) + 2 - d else if d = 2 then 3 * (r / 2) else if d = 1 then (if r / 2 % w + 1 < w then 3 * (r / 2 + 1) + 1 else 3 * (w * h) + r / 2 / w) else (if r / 2 / w + 1 < h then 3 * (r / 2 + w) + 2 else 3 * (w * h) + h + r / 2 % w)
def gB (w h r d : Nat) : Int32 := if d = 2 then (if r % 2 = 0 then nI (r + 1) else nI (r - 1)) else if d = 1 then (if r % 2 = 0 then (if r / 2 % w = 0 then -9 else nI (r - 1)) else (if r / 2 % w + 1 = w then -9 else nI (r + 1))) else (if r % 2 = 0 then (if r / 2 / w = 0 then -9 else nI (2 * (r / 2 - w) + 1)) else (if r / 2 / w + 1 = h then -9 else nI (2 * (r / 2 + w))))
def gSides (w h : Nat) : Nat := 3 * w * h + w + h
def gRooms (w h : Nat) : Nat := 2 * w * h
/-- a house's measures -/
def gOk (w h : Nat) : Prop := 1 ≤ w ∧ w < 5 ∧ 1 ≤ h ∧ h < 4
/-- one side put down, in the tables 0 wayOf, 1 evenBy, 2 oddBy, 3 sidesBy -/
def mhPl (side way even odd : Int32) (T : mhI) : mhI :=
  let T3 := mhUI (mhUI (mhUI T 0 side way) 1 side even) 2 side odd
  let T4 := if even = -9 then T3 else mhUI T3 3 (3 * even + way) side
  if odd = -9 then T4 else mhUI T4 3 (3 * odd + way) side
def mhSec (w x y : Nat) : Int32 := nI (2 * (w * y + x) + 1)
def mhPs (w x y : Nat) (T : mhI) : mhI :=
  mhPl (nI (3 * (w * y + x) + 2)) 0 (nI (2 * (w * y + x))) (if y = 0 then -9 else mhSec w x (y - 1))
    (mhPl (nI (3 * (w * y + x) + 1)) 1 (nI (2 * (w * y + x))) (if x = 0 then -9 else mhSec w (x - 1) y)
      (mhPl (nI (3 * (w * y + x))) 2 (nI (2 * (w * y + x))) (mhSec w x y) T))
def mhTx (w y : Nat) : Nat → mhI → mhI
  | 0, T => T
  | x + 1, T => mhPs w x y (mhTx w y x T)
def mhTy1 (w : Nat) : Nat → mhI → mhI
  | 0, T => T
  | y + 1, T => mhTx w y w (mhTy1 w y T)
def mhTb (w h : Nat) : Nat → mhI → mhI
  | 0, T => T
  | y + 1, T => mhPl (nI (3 * w * h + y)) 1 (-9) (mhSec w (w - 1) y) (mhTb w h y T)
def mhTc (w h : Nat) : Nat → mhI → mhI
  | 0, T => T
  | x + 1, T => mhPl (nI (3 * w * h + h + x)) 0 (-9) (mhSec w x (h - 1)) (mhTc w h x T)
def mhTab (w h : Nat) : mhI := mhTc w h w (mhTb w h h (mhTy1 w h (fun _ _ => 0)))
theorem gT1l : ∀ w ∈ [1, 2, 3, 4], ∀ h ∈ [1, 2, 3], ∀ r ∈ List.range (gRooms w h), ∀ d ∈ [0, 1, 2], mhTab w h 3 (nI (3 * r + d)) = nI (gSide w h r d) ∧ gSide w h r d < gSides w h ∧ (if r % 2 = 0 then mhTab w h 2 (nI (gSide w h r d)) else mhTab w h 1 (nI (gSide w h r d))) = gB w h r d ∧ mhTab w h 0 (nI (gSide w h r d)) = nI d := by decide +kernel
theorem gB1l : ∀ w ∈ [1, 2, 3, 4], ∀ h ∈ [1, 2, 3], ∀ r ∈ List.range (gRooms w h), ∀ d ∈ [0, 1, 2], gB w h r d = -9 ∨ ∃ q ∈ List.range (gRooms w h), gB w h r d = nI q := by decide +kernel
theorem gWl {w : Nat} (h1 : 1 ≤ w) (h2 : w < 5) : w ∈ [1, 2, 3, 4] := by simp; omega
theorem gHl {h : Nat} (h1 : 1 ≤ h) (h2 : h < 4) : h ∈ [1, 2, 3] := by simp; omega
theorem gDl {d : Nat} (h : d < 3) : d ∈ [0, 1, 2] := by simp; omega
theorem gBdl : ∀ w ∈ [1, 2, 3, 4], ∀ h ∈ [1, 2, 3], gRooms w h ≤ 24 ∧ gSides w h ≤ 43 ∧ 2 ≤ gRooms w h ∧ 5 ≤ gSides w h := by decide +kernel
/-- what the reference comes to, as it seeks a side's way and rooms -/
def mhSk (w h k : Nat) : Nat → (Int32 × Int32 × Int32) → (Int32 × Int32 × Int32)
  | 0, s => s
  | n + 1, s =>
    let t := mhSk w h k n s
    if gSide w h (n / 3) (n % 3) = k then (nI (n % 3), (if n / 3 % 2 = 0 then nI (n / 3) else t.2.1), (if n / 3 % 2 = 1 then nI (n / 3) else t.2.2)) else t
theorem gK1l : ∀ w ∈ [1, 2, 3, 4], ∀ h ∈ [1, 2, 3], ∀ k ∈ List.range (gSides w h), mhSk w h k (3 * gRooms w h) (-9, -9, -9) = (mhTab w h 0 (nI k), mhTab w h 1 (nI k), mhTab w h 2 (nI k)) := by decide +kernel
theorem gT1 {w h r d : Nat} (g : gOk w h) (hr : r < gRooms w h) (hd : d < 3) : mhTab w h 3 (nI (3 * r + d)) = nI (gSide w h r d) ∧ gSide w h r d < gSides w h ∧ (if r % 2 = 0 then mhTab w h 2 (nI (gSide w h r d)) else mhTab w h 1 (nI (gSide w h r d))) = gB w h r d ∧ mhTab w h 0 (nI (gSide w h r d)) = nI d := gT1l w (gWl g.1 g.2.1) h (gHl g.2.2.1 g.2.2.2) r (List.mem_range.mpr hr) d (gDl hd)
theorem gB1 {w h r d : Nat} (g : gOk w h) (hr : r < gRooms w h) (hd : d < 3) : gB w h r d = -9 ∨ ∃ q, q < gRooms w h ∧ gB w h r d = nI q := by
  rcases gB1l w (gWl g.1 g.2.1) h (gHl g.2.2.1 g.2.2.2) r (List.mem_range.mpr hr) d (gDl hd) with h | ⟨q, h1, h2⟩
  · exact Or.inl h
  · exact Or.inr ⟨q, List.mem_range.mp h1, h2⟩
theorem gBd {w h : Nat} (g : gOk w h) : gRooms w h ≤ 24 ∧ gSides w h ≤ 43 ∧ 2 ≤ gRooms w h ∧ 5 ≤ gSides w h := gBdl w (gWl g.1 g.2.1) h (gHl g.2.2.1 g.2.2.2)
theorem gK1 {w h k : Nat} (g : gOk w h) (hk : k < gSides w h) : mhSk w h k (3 * gRooms w h) (-9, -9, -9) = (mhTab w h 0 (nI k), mhTab w h 1 (nI k), mhTab w h 2 (nI k)) := gK1l w (gWl g.1 g.2.1) h (gHl g.2.2.1 g.2.2.2) k (List.mem_range.mpr hk)
