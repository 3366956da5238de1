/-- the place behind the granting item; 0: none grants -/
def gs (o : Option Nat) : Nat := match o with
  | none => 0
  | some g => g + 1
theorem oI_1 (o : Option Nat) : oI o + 1 = nI (gs o) := by
  cases o with
  | none => decide
  | some g => exact nI_1 g
theorem gs_le {σ : Nat → Nat → Int32} {c : Nat} {t : Int32} {w : Bool} : gs (gr σ c t w) ≤ zN (σ 4 c) := by
  cases h : gr σ c t w with
  | none => exact Nat.zero_le _
  | some g => exact grf_lt h
theorem nI_ne_m1 {k : Nat} (h : k < 2 ^ 31) : ¬ nI k = -1 := by
  intro e
  have h1 := nI_toInt h
  rw [e] at h1
  have : ((-1 : Int32)).toInt = -1 := by decide
  omega
/-- unique items of a stretch of the rows become disabled -/
def dis (σ : Nat → Nat → Int32) (lo hi : Nat) : Nat → Nat → Int32 := fun k i => if k = 6 ∧ lo ≤ i ∧ i < hi ∧ σ 6 i = 0 then 3 else σ k i
theorem dis_0 (σ : Nat → Nat → Int32) (lo : Nat) : dis σ lo lo = σ := by
  funext k i
  unfold dis
  rw [if_neg (by omega)]
theorem dis_n {σ : Nat → Nat → Int32} {lo hi k : Nat} (h : k ≠ 6) : dis σ lo hi k = σ k := by
  funext i
  unfold dis
  rw [if_neg (fun q => h q.1)]
theorem dis_at {σ : Nat → Nat → Int32} {lo hi i : Nat} (h : hi ≤ i) : dis σ lo hi 6 i = σ 6 i := by
  unfold dis
  rw [if_neg (by omega)]
theorem dis_y {σ : Nat → Nat → Int32} {lo hi : Nat} (h : lo ≤ hi) (h6 : σ 6 hi = 0) : ms_u (dis σ lo hi) 6 hi 3 = dis σ lo (hi + 1) := by
  funext k i
  by_cases hk : k = 6
  · subst hk
    rw [ms_u_k]
    unfold upd
    by_cases hi' : i = hi
    · subst hi'
      rw [if_pos rfl]
      unfold dis
      rw [if_pos ⟨rfl, h, by omega, h6⟩]
    · rw [if_neg hi']
      unfold dis
      have e : (6 = 6 ∧ lo ≤ i ∧ i < hi ∧ σ 6 i = 0) ↔ (6 = 6 ∧ lo ≤ i ∧ i < hi + 1 ∧ σ 6 i = 0) := by
        constructor <;> rintro ⟨a, b, c, d⟩ <;> exact ⟨a, b, by omega, d⟩
      exact ite_congr (propext e) (fun _ => rfl) (fun _ => rfl)
  · rw [ms_u_n hk, dis_n hk, dis_n hk]
theorem dis_no {σ : Nat → Nat → Int32} {lo hi : Nat} (h6 : ¬ σ 6 hi = 0) : dis σ lo hi = dis σ lo (hi + 1) := by
  funext k i
  unfold dis
  have e : (k = 6 ∧ lo ≤ i ∧ i < hi ∧ σ 6 i = 0) ↔ (k = 6 ∧ lo ≤ i ∧ i < hi + 1 ∧ σ 6 i = 0) := by
    constructor
    · rintro ⟨a, b, c, d⟩; exact ⟨a, b, by omega, d⟩
    · rintro ⟨a, b, c, d⟩
      refine ⟨a, b, ?_, d⟩
      rcases Nat.lt_or_ge i hi with q | q
      · exact q
      · have : i = hi := by omega
        subst this
        exact absurd d h6
  exact ite_congr (propext e) (fun _ => rfl) (fun _ => rfl)
def dRd (σ : Nat → Nat → Int32) (p i : Nat) : Nat → Nat → Int32 := dis σ (12 * cO σ p i + gs (gr σ (cO σ p i) (nI p) false)) (12 * cO σ p i + zN (σ 4 (cO σ p i)))
def dWr (σ : Nat → Nat → Int32) (p i : Nat) : Nat → Nat → Int32 := match gr σ (cO σ p i) (nI p) true with
  | none => σ
  | some k => ms_u σ 4 (cO σ p i) (nI (ab σ (cO σ p i) k))
/-- in a row, the places from lo + 1 to hi get what stood one below -/
def shf (f : Nat → Int32) (lo hi : Nat) : Nat → Int32 := fun i => if lo < i ∧ i ≤ hi then f (i - 1) else f i
def sh3 (σ : Nat → Nat → Int32) (lo hi : Nat) : Nat → Nat → Int32 := fun k => if k = 5 ∨ k = 6 ∨ k = 7 then shf (σ k) lo hi else σ k
theorem shf_0 (f : Nat → Int32) (hi : Nat) : shf f hi hi = f := by
  funext i
  unfold shf
  rw [if_neg (by omega)]
theorem sh3_0 (σ : Nat → Nat → Int32) (hi : Nat) : sh3 σ hi hi = σ := by
  funext k
  unfold sh3
  split
  · rw [shf_0]
  · rfl
theorem shf_s {f : Nat → Int32} {lo hi : Nat} (h : lo < hi) : upd (shf f (lo + 1) hi) (lo + 1) (f lo) = shf f lo hi := by
  funext i
  unfold upd shf
  by_cases hi' : i = lo + 1
  · subst hi'
    rw [if_pos rfl, if_pos (by omega)]
    rfl
  · rw [if_neg hi']
    have e : (lo + 1 < i ∧ i ≤ hi) ↔ (lo < i ∧ i ≤ hi) := by constructor <;> intro h <;> omega
    simp only [e]
theorem shf_lo {f : Nat → Int32} {lo hi i : Nat} (h : i ≤ lo) : shf f lo hi i = f i := by
  unfold shf
  rw [if_neg (by omega)]
theorem sh3_s {σ : Nat → Nat → Int32} {lo hi : Nat} (h : lo < hi) : ms_u (ms_u (ms_u (sh3 σ (lo + 1) hi) 5 (lo + 1) (σ 5 lo)) 6 (lo + 1) (σ 6 lo)) 7 (lo + 1) (σ 7 lo) = sh3 σ lo hi := by
  funext k
  by_cases h7 : k = 7
  · subst h7
    rw [ms_u_k, ms_u_n (by decide), ms_u_n (by decide)]
    exact shf_s h
  · rw [ms_u_n h7]
    by_cases h6 : k = 6
    · subst h6
      rw [ms_u_k, ms_u_n (by decide)]
      exact shf_s h
    · rw [ms_u_n h6]
      by_cases h5 : k = 5
      · subst h5
        rw [ms_u_k]
        exact shf_s h
      · rw [ms_u_n h5]
        unfold sh3
        rw [if_neg (by omega), if_neg (by omega)]
/-- an item comes into the stack of the cell c at the place p -/
def ins (σ : Nat → Nat → Int32) (c p : Nat) (t q g : Int32) : Nat → Nat → Int32 := ms_u (ms_u (ms_u (ms_u (sh3 σ (12 * c + p) (12 * c + zN (σ 4 c))) 5 (12 * c + p) t) 6 (12 * c + p) q) 7 (12 * c + p) g) 4 c (σ 4 c + 1)
def nwP (σ : Nat → Nat → Int32) (al par : Int32) : Nat → Nat → Int32 := ms_u (ms_u (ms_u σ 9 (zN (σ 8 0)) al) 10 (zN (σ 8 0)) par) 8 0 (σ 8 0 + 1)
