/-! numbers, and the functions that both sides compute -/
theorem nI_m1 (m : Nat) : nI m + Int32.ofInt (-1) = nI m - 1 := by
  rw [show Int32.ofInt (-1) = -1 from rfl, Int32.sub_eq_add_neg]
theorem nI_i1 (m : Nat) : nI m + Int32.ofInt 1 = nI (m + 1) := nI_1 m
theorem nI_12 (c k : Nat) : 12 * nI c + nI k = nI (12 * c + k) := by
  rw [show (12 : Int32) = nI 12 from rfl, pk_mul, nI_add]
theorem nI_8 (c k : Nat) : 8 * nI c + nI k = nI (8 * c + k) := by
  rw [show (8 : Int32) = nI 8 from rfl, pk_mul, nI_add]
def bI (b : Bool) : Int32 := if b then 1 else 0
theorem bI_01 (b : Bool) : bI b = 0 ∨ bI b = 1 := by cases b <;> decide
theorem bI_0 {b : Bool} : bI b = 0 ↔ b = false := by cases b <;> decide
theorem bI_n0 {b : Bool} : ¬ bI b = 0 ↔ b = true := by cases b <;> decide
def oI (o : Option Nat) : Int32 := match o with
  | none => -1
  | some k => nI k
/-- may an item of this permission grant: a write, a read -/
def okp (w : Bool) (p : Int32) : Bool := if w then decide (p < 2) else decide (¬ p = 3)
/-- the topmost granting item of the lowest n -/
def grf (tg pm : Nat → Int32) (t : Int32) (w : Bool) : Nat → Option Nat
  | 0 => none
  | n + 1 => if tg n = t ∧ okp w (pm n) = true then some n else grf tg pm t w n
/-- from place j on, f items: the first that isn't shared read-write -/
def srw (pm : Nat → Int32) : Nat → Nat → Nat
  | 0, j => j
  | f + 1, j => if pm j = 1 then srw pm f (j + 1) else j
/-- the first place above a granting item that does not stay by a write, of n -/
def abf (pm : Nat → Int32) (n k : Nat) : Nat := if pm k = 1 then srw pm (n - (k + 1)) (k + 1) else k + 1
/-- is one of the f items from j on protected -/
def gdf (pm gd : Nat → Int32) (all : Bool) : Nat → Nat → Bool
  | 0, _ => false
  | f + 1, j => ((all || decide (pm j = 0)) && decide (0 < gd j)) || gdf pm gd all f (j + 1)
theorem grf_lt {tg pm : Nat → Int32} {t : Int32} {w : Bool} : ∀ {n k : Nat}, grf tg pm t w n = some k → k < n
  | 0, k, h => by cases h
  | n + 1, k, h => by
    unfold grf at h
    split at h
    · cases h; omega
    · have := grf_lt (n := n) h; omega
theorem srw_le {pm : Nat → Int32} : ∀ (f j : Nat), j ≤ srw pm f j ∧ srw pm f j ≤ j + f
  | 0, j => by unfold srw; omega
  | f + 1, j => by
    unfold srw
    split
    · have := srw_le (pm := pm) f (j + 1); omega
    · omega
theorem abf_le {pm : Nat → Int32} {n k : Nat} (h : k < n) : k + 1 ≤ abf pm n k ∧ abf pm n k ≤ n := by
  unfold abf
  split
  · have := srw_le (pm := pm) (n - (k + 1)) (k + 1); omega
  · omega
