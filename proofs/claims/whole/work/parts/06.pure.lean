/-! numbers, and the functions that both sides compute -/
theorem nI_m1 (m : Nat) : nI m + Int32.ofInt (-1) = nI m - 1 := by
  rw [show Int32.ofInt (-1) = -1 from rfl, Int32.sub_eq_add_neg]
theorem nI_i1 (m : Nat) : nI m + Int32.ofInt 1 = nI (m + 1) := nI_1 m
theorem nI_12 (c k : Nat) : 12 * nI c + nI k = nI (12 * c + k) := by
  rw [show (12 : Int32) = nI 12 from rfl, pk_mul, nI_add]
theorem nI_8 (c k : Nat) : 8 * nI c + nI k = nI (8 * c + k) := by
  rw [show (8 : Int32) = nI 8 from rfl, pk_mul, nI_add]
def bI (b : Bool) : Int32 := if b then 1 else 0
theorem bI_01 (b : Bool) : bI b = 0 ∨ bI b = 1 := by cases b <;> decide
theorem bI_0 {b : Bool} : bI b = 0 ↔ b = false := by cases b <;> decide
theorem bI_n0 {b : Bool} : ¬ bI b = 0 ↔ b = true := by cases b <;> decide
def oI (o : Option Nat) : Int32 := match o with
  | none => -1
  | some k => nI k
/-- may an item of this permission grant: a write, a read -/
def okp (w : Bool) (p : Int32) : Bool := if w then decide (p < 2) else decide (¬ p = 3)
/-- the topmost granting item of the lowest n -/
def grf (tg pm : Nat → Int32) (t : Int32) (w : Bool) : Nat → Option Nat
  | 0 => none
  | n + 1 => if tg n = t ∧ okp w (pm n) = true then some n else grf tg pm t w n
/-- from place j on, f items: the first that isn't shared read-write -/
def srw (pm : Nat → Int32) : Nat → Nat → Nat
  | 0, j => j
  | f + 1, j => if pm j = 1 then srw pm f (j + 1) else j
/-- the first place above a granting item that does not stay by a write, of n -/
def abf (pm : Nat → Int32) (n k : Nat) : Nat := if pm k = 1 then srw pm (n - (k + 1)) (k + 1) else k + 1
/-- is one of the f items from j on protected -/
def gdf (pm gd : Nat → Int32) (all : Bool) : Nat → Nat → Bool
  | 0, _ => false
  | f + 1, j => ((all || decide (pm j = 0)) && decide (0 < gd j)) || gdf pm gd all f (j + 1)
theorem grf_lt {tg pm : Nat → Int32} {t : Int32} {w : Bool} : ∀ {n k : Nat}, grf tg pm t w n = some k → k < n
  | 0, k, h => by cases h
  | n + 1, k, h => by
    unfold grf at h
    split at h
    · cases h; omega
    · have := grf_lt (n := n) h; omega
theorem srw_le {pm : Nat → Int32} : ∀ (f j : Nat), j ≤ srw pm f j ∧ srw pm f j ≤ j + f
  | 0, j => by unfold srw; omega
  | f + 1, j => by
    unfold srw
    split
    · have := srw_le (pm := pm) f (j + 1); omega
    · omega
theorem abf_le {pm : Nat → Int32} {n k : Nat} (h : k < n) : k + 1 ≤ abf pm n k ∧ abf pm n k ≤ n := by
  unfold abf
  split
  · have := srw_le (pm := pm) (n - (k + 1)) (k + 1); omega
  · omega
def zN (x : Int32) : Nat := x.toNatClampNeg
theorem zN_nI {n : Nat} (h : n < 2 ^ 31) : zN (nI n) = n := nI_clamp h
/-- a number from 0 to b -/
def nn (x : Int32) (b : Nat) : Prop := x = nI (zN x) ∧ zN x ≤ b
theorem nn_nI {n b : Nat} (h : n ≤ b) (hb : b < 2 ^ 31) : nn (nI n) b := by
  have e : zN (nI n) = n := zN_nI (by omega)
  exact ⟨by rw [e], by rw [e]; exact h⟩
theorem nn_0 {b : Nat} : nn 0 b := ⟨rfl, Nat.zero_le b⟩
def inb (v : Int32) (n : Nat) : Bool := decide (0 ≤ v ∧ v ≤ nI n - 1)
theorem inb_nI {j n : Nat} (h : j < n) (hn : n < 2 ^ 31) : inb (nI j) n = true := by
  obtain ⟨m, rfl⟩ : ∃ m, n = m + 1 := ⟨n - 1, by omega⟩
  simp only [inb, decide_eq_true_eq, nI_pred]
  exact ⟨nI_pos' (by omega), nI_le (by omega) (by omega)⟩
theorem inb_t {v : Int32} {n : Nat} (hn : n < 2 ^ 31) (h : inb v n = true) : ∃ j, j < n ∧ v = nI j := by
  simp only [inb, decide_eq_true_eq] at h
  obtain ⟨j, hj, rfl⟩ := nI_of (x := v) (by rw [Int32.not_lt]; exact h.1)
  refine ⟨j, ?_, rfl⟩
  cases n with
  | zero =>
    exfalso
    have h1 := h.2
    rw [nI_0] at h1
    rw [Int32.le_iff_toInt_le, nI_toInt hj] at h1
    have : ((0 : Int32) - 1).toInt = -1 := by decide
    rw [this] at h1
    omega
  | succ m =>
    have h1 := h.2
    rw [nI_pred, Int32.le_iff_toInt_le, nI_toInt hj, nI_toInt (by omega)] at h1
    omega
theorem inb_lt {v : Int32} {n : Nat} (hn : n < 2 ^ 31) : inb v n = decide (0 ≤ v ∧ v < nI n) := by
  cases h : inb v n with
  | true =>
    obtain ⟨j, hj, rfl⟩ := inb_t hn h
    symm
    simp only [decide_eq_true_eq]
    exact ⟨nI_pos' (by omega), nI_lt hj hn⟩
  | false =>
    symm
    simp only [decide_eq_false_iff_not]
    rintro ⟨h1, h2⟩
    obtain ⟨j, hj, rfl⟩ := nI_of (x := v) (by rw [Int32.not_lt]; exact h1)
    rw [nI_ltI hj hn] at h2
    rw [inb_nI h2 hn] at h
    cases h
/-- the reference's rows are as they must be -/
def mInv (σ : Nat → Nat → Int32) : Prop := nn (σ 0 0) 10 ∧ nn (σ 8 0) 60 ∧ nn (σ 11 0) 5 ∧ nn (σ 18 0) 120 ∧ (∀ a, a < zN (σ 0 0) → nn (σ 1 a) 8 ∧ 1 ≤ zN (σ 1 a)) ∧ (∀ p, p < zN (σ 8 0) → nn (σ 9 p) 9 ∧ zN (σ 9 p) < zN (σ 0 0)) ∧ (∀ c, c < 80 → nn (σ 4 c) 12) ∧ (∀ c, 8 * zN (σ 0 0) ≤ c → c < 80 → σ 4 c = 0)
section MInv
variable {σ : Nat → Nat → Int32}
theorem mInv.nA (h : mInv σ) : nn (σ 0 0) 10 := h.1
theorem mInv.nP (h : mInv σ) : nn (σ 8 0) 60 := h.2.1
theorem mInv.dp (h : mInv σ) : nn (σ 11 0) 5 := h.2.2.1
theorem mInv.ln (h : mInv σ) : nn (σ 18 0) 120 := h.2.2.2.1
theorem mInv.cl (h : mInv σ) {a : Nat} (ha : a < zN (σ 0 0)) : nn (σ 1 a) 8 ∧ 1 ≤ zN (σ 1 a) := h.2.2.2.2.1 a ha
theorem mInv.ow (h : mInv σ) {p : Nat} (hp : p < zN (σ 8 0)) : nn (σ 9 p) 9 ∧ zN (σ 9 p) < zN (σ 0 0) := h.2.2.2.2.2.1 p hp
theorem mInv.sz (h : mInv σ) {c : Nat} (hc : c < 80) : nn (σ 4 c) 12 := h.2.2.2.2.2.2.1 c hc
theorem mInv.s0 (h : mInv σ) {c : Nat} (h1 : 8 * zN (σ 0 0) ≤ c) (hc : c < 80) : σ 4 c = 0 := h.2.2.2.2.2.2.2 c h1 hc
theorem mInv.owe (h : mInv σ) {p : Nat} (hp : p < zN (σ 8 0)) : σ 9 p = nI (zN (σ 9 p)) := (h.ow hp).1.1
theorem mInv.ow10 (h : mInv σ) {p : Nat} (hp : p < zN (σ 8 0)) : zN (σ 9 p) < 10 := by
  have := (h.ow hp).1.2; omega
theorem mInv.p60 (h : mInv σ) {p : Nat} (hp : p < zN (σ 8 0)) : p < 60 := by
  have := h.nP.2; omega
/-- a pointer of the state, a cell of its allocation -/
def isPc (σ : Nat → Nat → Int32) (p i : Nat) : Prop := p < zN (σ 8 0) ∧ i < zN (σ 1 (zN (σ 9 p)))
theorem mInv.cell (h : mInv σ) {p i : Nat} (hp : isPc σ p i) : i < 8 ∧ 8 * zN (σ 9 p) + i < 80 := by
  have h1 := (h.ow hp.1).2
  have h2 := h.nA.2
  have h3 := (h.cl h1).1.2
  have h4 := hp.2
  omega
end MInv
/-- is there such a pointer and cell -/
def isC (σ : Nat → Nat → Int32) (p c : Int32) : Bool := inb p (zN (σ 8 0)) && inb c (zN (σ 1 (zN (σ 9 (zN p)))))
theorem isC_nI {σ : Nat → Nat → Int32} (hI : mInv σ) {p i : Nat} (h : isPc σ p i) : isC σ (nI p) (nI i) = true := by
  have h1 := hI.p60 h.1
  have h2 := hI.nP.2
  have h3 := (hI.cl (hI.ow h.1).2).1.2
  unfold isC
  rw [zN_nI (by omega), inb_nI h.1 (by omega), inb_nI h.2 (by omega)]
  rfl
theorem isC_t {σ : Nat → Nat → Int32} (hI : mInv σ) {p c : Int32} (h : isC σ p c = true) : ∃ j i, p = nI j ∧ c = nI i ∧ isPc σ j i := by
  unfold isC at h
  rw [Bool.and_eq_true] at h
  have h2 := hI.nP.2
  obtain ⟨j, hj, rfl⟩ := inb_t (by omega) h.1
  have h1 := hI.p60 hj
  have h3 := (hI.cl (hI.ow hj).2).1.2
  have h4 := h.2
  rw [zN_nI (by omega)] at h4
  obtain ⟨i, hi, rfl⟩ := inb_t (by omega) h4
  exact ⟨j, i, rfl, rfl, hj, hi⟩
/-- the granting item of the cell c for a tag -/
def gr (σ : Nat → Nat → Int32) (c : Nat) (t : Int32) (w : Bool) : Option Nat := grf (fun k => σ 5 (12 * c + k)) (fun k => σ 6 (12 * c + k)) t w (zN (σ 4 c))
def ab (σ : Nat → Nat → Int32) (c k : Nat) : Nat := abf (fun k => σ 6 (12 * c + k)) (zN (σ 4 c)) k
def gd (σ : Nat → Nat → Int32) (c j : Nat) (all : Bool) : Bool := gdf (fun k => σ 6 (12 * c + k)) (fun k => σ 7 (12 * c + k)) all (zN (σ 4 c) - j) j
/-- which of all cells -/
def cO (σ : Nat → Nat → Int32) (p i : Nat) : Nat := 8 * zN (σ 9 p) + i
def rdK (σ : Nat → Nat → Int32) (p i : Nat) : Int32 := if ¬ σ 2 (zN (σ 9 p)) = 0 then 3 else match gr σ (cO σ p i) (nI p) false with
  | none => 1
  | some k => if gd σ (cO σ p i) (k + 1) false then 2 else 0
def wrK (σ : Nat → Nat → Int32) (p i : Nat) : Int32 := if ¬ σ 2 (zN (σ 9 p)) = 0 then 3 else match gr σ (cO σ p i) (nI p) true with
  | none => 1
  | some k => if gd σ (cO σ p i) (ab σ (cO σ p i) k) true then 2 else 0
def rwK (σ : Nat → Nat → Int32) (p i : Nat) : Int32 := if ¬ σ 2 (zN (σ 9 p)) = 0 then 3 else match gr σ (cO σ p i) (nI p) true with
  | none => 1
  | some _ => 0
def frK (σ : Nat → Nat → Int32) (p i : Nat) : Int32 := if ¬ wrK σ p i = 0 then wrK σ p i else if gd σ (cO σ p i) 0 true then 2 else 0
