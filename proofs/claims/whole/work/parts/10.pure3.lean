/-! what each call answers and leaves, over the reference's state -/
def err (σ : MS) (j : Nat) : MS := ms_u σ 15 j (σ 15 j + (if σ 16 0 = 0 then 1 else 0))
def vio (σ : MS) (kd c : Int32) : MS := ms_u (ms_u (ms_u σ 12 0 (σ 12 0 + 1)) 13 0 kd) 14 0 c
def s_read (σ : MS) (p c : Int32) : Int32 × MS := if isC σ p c = true then (if rdK σ (zN p) (zN c) = 0 then (σ 3 (cO σ (zN p) (zN c)), dRd σ (zN p) (zN c)) else (-5, vio σ (rdK σ (zN p) (zN c)) c)) else (-2, err σ 0)
def s_write (σ : MS) (p c v : Int32) : Int32 × MS := if isC σ p c = true ∧ 0 ≤ v ∧ v ≤ 99 then (if wrK σ (zN p) (zN c) = 0 then (σ 3 (cO σ (zN p) (zN c)), ms_u (dWr σ (zN p) (zN c)) 3 (cO σ (zN p) (zN c)) v) else (-5, vio σ (wrK σ (zN p) (zN c)) c)) else (-2, err σ 0)
/-- the lowest m cells of an allocation get their first item -/
def inl (σ : MS) (a : Nat) (p : Int32) : Nat → MS
  | 0 => σ
  | i + 1 => ins (inl σ a p i) (8 * a + i) 0 p 0 0
def alc (σ : MS) (m : Int32) : MS := inl (nwP (ms_u (ms_u σ 0 0 (σ 0 0 + 1)) 1 (zN (σ 0 0)) m) (σ 0 0) (-1)) (zN (σ 0 0)) (σ 8 0) (zN m)
def s_alloc (σ : MS) (m : Int32) : Int32 × MS := if 1 ≤ m ∧ m ≤ 8 then (if σ 0 0 = 10 ∨ σ 8 0 = 60 then (-4, err σ 2) else (σ 8 0, alc σ m)) else (-2, err σ 0)
def rbK (σ : MS) (p : Nat) (kd : Int32) (i : Nat) : Int32 := if kd = 0 then wrK σ p i else if kd = 1 then rdK σ p i else rwK σ p i
/-- the first of f cells from i on that isn't 0 -/
def fsV (K : Nat → Int32) : Nat → Nat → Option Nat
  | 0, _ => none
  | f + 1, i => if K i = 0 then fsV K f (i + 1) else some i
theorem fsV_lt {K : Nat → Int32} : ∀ {f i j : Nat}, fsV K f i = some j → i ≤ j ∧ j < i + f ∧ ¬ K j = 0
  | 0, i, j, h => by cases h
  | f + 1, i, j, h => by
    unfold fsV at h
    split at h
    · have := fsV_lt (f := f) h; exact ⟨by omega, by omega, this.2.2⟩
    · next hk => cases h; exact ⟨by omega, by omega, hk⟩
theorem fsV_none {K : Nat → Int32} : ∀ {f i : Nat}, fsV K f i = none → ∀ j, i ≤ j → j < i + f → K j = 0
  | 0, i, _, j, h1, h2 => by omega
  | f + 1, i, h, j, h1, h2 => by
    unfold fsV at h
    split at h
    · next hk =>
      by_cases e : j = i
      · rw [e]; exact hk
      · exact fsV_none (f := f) h j (by omega) (by omega)
    · cases h
/-- how many items a stack would have -/
def szB (σ : MS) (p : Nat) (kd : Int32) (i : Nat) : Nat := 1 + (if kd = 0 then (match gr σ (cO σ p i) (nI p) true with | none => 0 | some k => ab σ (cO σ p i) k) else zN (σ 4 (cO σ p i)))
def fit (σ : MS) (p : Nat) (kd : Int32) : Nat → Nat → Bool
  | 0, _ => true
  | f + 1, i => decide (szB σ p kd i ≤ 12) && fit σ p kd f (i + 1)
theorem fit_all {σ : MS} {p : Nat} {kd : Int32} : ∀ {f i : Nat}, fit σ p kd f i = true → ∀ j, i ≤ j → j < i + f → szB σ p kd j ≤ 12
  | 0, i, _, j, h1, h2 => by omega
  | f + 1, i, h, j, h1, h2 => by
    unfold fit at h
    rw [Bool.and_eq_true, decide_eq_true_eq] at h
    by_cases e : j = i
    · rw [e]; exact h.1
    · exact fit_all (f := f) h.2 j (by omega) (by omega)
def pt (σ : MS) (p : Nat) (kd : Int32) (i : Nat) (g : Int32) : MS := if kd = 0 then ins (dWr σ p i) (cO σ p i) (zN ((dWr σ p i) 4 (cO σ p i))) (σ 8 0) 0 g else if kd = 1 then ins (dRd σ p i) (cO σ p i) (zN (σ 4 (cO σ p i))) (σ 8 0) 2 g else ins σ (cO σ p i) (match gr σ (cO σ p i) (nI p) true with | none => 0 | some k => ab σ (cO σ p i) k) (σ 8 0) 1 g
def pts (σ : MS) (p : Nat) (kd g : Int32) : Nat → Nat → MS
  | 0, _ => σ
  | f + 1, i => pts (pt σ p kd i g) p kd g f (i + 1)
def s_reb (σ : MS) (p kd fr ct pr : Int32) : Int32 × MS :=
  if isC σ p fr = true ∧ (0 ≤ kd ∧ kd ≤ 2) ∧ (0 ≤ pr ∧ pr ≤ 1) ∧ (1 ≤ ct ∧ ct ≤ σ 1 (zN (σ 9 (zN p))) - fr) then
    (if pr = 1 ∧ σ 11 0 = 0 then (-3, err σ 1) else match fsV (rbK σ (zN p) kd) (zN ct) (zN fr) with
      | some i => (-5, vio σ (rbK σ (zN p) kd i) (nI i))
      | none => if σ 8 0 < 60 ∧ fit σ (zN p) kd (zN ct) (zN fr) = true then (σ 8 0, nwP (pts σ (zN p) kd (if pr = 1 then σ 11 0 else 0) (zN ct) (zN fr)) (σ 9 (zN p)) p) else (-4, err σ 2))
  else (-2, err σ 0)
def s_free (σ : MS) (p : Int32) : Int32 × MS := if inb p (zN (σ 8 0)) = true then (match fsV (frK σ (zN p)) (zN (σ 1 (zN (σ 9 (zN p))))) 0 with
    | some i => (-5, vio σ (frK σ (zN p) i) (nI i))
    | none => (σ 1 (zN (σ 9 (zN p))), ms_u σ 2 (zN (σ 9 (zN p))) 1)) else (-2, err σ 0)
def s_enter (σ : MS) : Int32 × MS := if σ 11 0 = 5 then (-4, err σ 2) else (σ 11 0 + 1, ms_u σ 11 0 (σ 11 0 + 1))
def clr (σ : MS) (n : Nat) : MS := fun k i => if k = 7 ∧ i < n ∧ σ 7 i = σ 11 0 then 0 else σ k i
theorem clr_0 (σ : MS) : clr σ 0 = σ := by
  funext k i
  unfold clr
  rw [if_neg (by omega)]
theorem clr_n {σ : MS} {n k : Nat} (h : k ≠ 7) : clr σ n k = σ k := by
  funext i
  unfold clr
  rw [if_neg (fun q => h q.1)]
theorem clr_at {σ : MS} {n i : Nat} (h : n ≤ i) : clr σ n 7 i = σ 7 i := by
  unfold clr
  rw [if_neg (by omega)]
theorem clr_s {σ : MS} {n : Nat} : ms_u (clr σ n) 7 n (if σ 7 n = σ 11 0 then 0 else σ 7 n) = clr σ (n + 1) := by
  funext k i
  by_cases hk : k = 7
  · subst hk
    rw [ms_u_k]
    unfold upd
    by_cases hi : i = n
    · subst hi
      rw [if_pos rfl]
      unfold clr
      by_cases hd : σ 7 i = σ 11 0
      · rw [if_pos hd, if_pos ⟨rfl, by omega, hd⟩]
      · rw [if_neg hd, if_neg (fun q => hd q.2.2)]
    · rw [if_neg hi]
      unfold clr
      have e : (7 = 7 ∧ i < n ∧ σ 7 i = σ 11 0) ↔ (7 = 7 ∧ i < n + 1 ∧ σ 7 i = σ 11 0) := by
        constructor <;> rintro ⟨a, b, c⟩ <;> exact ⟨a, by omega, c⟩
      exact ite_congr (propext e) (fun _ => rfl) (fun _ => rfl)
  · rw [ms_u_n hk, clr_n hk, clr_n hk]
def s_leave (σ : MS) : Int32 × MS := if σ 11 0 = 0 then (-3, err σ 1) else (σ 11 0 - 1, ms_u (clr σ 960) 11 0 (σ 11 0 - 1))
/-! the rows stay as they must be -/
theorem mInv_of {σ σ' : MS} (h : mInv σ) (e : ∀ k, k = 0 ∨ k = 1 ∨ k = 4 ∨ k = 8 ∨ k = 9 ∨ k = 11 ∨ k = 18 → σ' k = σ k) : mInv σ' := by
  unfold mInv
  rw [e 0 (by decide), e 1 (by decide), e 4 (by decide), e 8 (by decide), e 9 (by decide), e 11 (by decide), e 18 (by decide)]
  exact h
theorem mInv_u {σ : MS} {k i : Nat} {x : Int32} (h : mInv σ) (hk : ¬ (k = 0 ∨ k = 1 ∨ k = 4 ∨ k = 8 ∨ k = 9 ∨ k = 11 ∨ k = 18)) : mInv (ms_u σ k i x) := mInv_of h (fun j hj => ms_u_n (fun e => hk (e ▸ hj)))
theorem mInv_err {σ : MS} {j : Nat} (h : mInv σ) : mInv (err σ j) := mInv_u h (by decide)
theorem mInv_vio {σ : MS} {a b : Int32} (h : mInv σ) : mInv (vio σ a b) := mInv_u (mInv_u (mInv_u h (by decide)) (by decide)) (by decide)
theorem mInv_dRd {σ : MS} {p i : Nat} (h : mInv σ) : mInv (dRd σ p i) := mInv_of h (fun j hj => dis_n (by omega))
theorem mInv_4 {σ : MS} {c : Nat} {x : Int32} (h : mInv σ) (hx : nn x 12) (hc : c < 8 * zN (σ 0 0)) : mInv (ms_u σ 4 c x) := by
  obtain ⟨h1, h2, h3, h4, h5, h6, h7, h8⟩ := h
  unfold mInv
  rw [ms_u_n (k' := 0) (by decide), ms_u_n (k' := 1) (by decide), ms_u_n (k' := 8) (by decide), ms_u_n (k' := 9) (by decide), ms_u_n (k' := 11) (by decide), ms_u_n (k' := 18) (by decide), ms_u_k]
  refine ⟨h1, h2, h3, h4, h5, h6, fun c' hc' => ?_, fun c' h1' hc' => ?_⟩
  · unfold upd
    split
    · exact hx
    · exact h7 c' hc'
  · unfold upd
    rw [if_neg (by omega)]
    exact h8 c' h1' hc'
theorem mInv.c8 {σ : MS} (h : mInv σ) {p i : Nat} (hp : isPc σ p i) : cO σ p i < 8 * zN (σ 0 0) := by
  have h1 := (h.ow hp.1).2
  have h2 := (h.cell hp).1
  unfold cO
  omega
theorem mInv_dWr {σ : MS} {p i : Nat} (h : mInv σ) (hp : isPc σ p i) : mInv (dWr σ p i) := by
  unfold dWr
  split
  · exact h
  · next k hg =>
    have hn := (h.sz (h.cell hp).2).2
    have := (abf_le (pm := fun k => σ 6 (12 * cO σ p i + k)) (grf_lt hg)).2
    have hn : zN (σ 4 (cO σ p i)) ≤ 12 := hn
    exact mInv_4 h (nn_nI (Nat.le_trans this hn) (by decide)) (h.c8 hp)
theorem ins_n {σ : MS} {c p : Nat} {t q g : Int32} {k : Nat} (h : ¬ (k = 4 ∨ k = 5 ∨ k = 6 ∨ k = 7)) : ins σ c p t q g k = σ k := by
  unfold ins
  rw [ms_u_n (by omega), ms_u_n (by omega), ms_u_n (by omega), ms_u_n (by omega)]
  unfold sh3
  rw [if_neg (by omega)]
theorem ins_4 {σ : MS} {c p : Nat} {t q g : Int32} : ins σ c p t q g 4 = upd (σ 4) c (σ 4 c + 1) := by
  unfold ins
  rw [ms_u_k, ms_u_n (by decide), ms_u_n (by decide), ms_u_n (by decide)]
  unfold sh3
  rw [if_neg (by decide)]
theorem mInv_ins {σ : MS} {c p : Nat} {t q g : Int32} (h : mInv σ) (hs : zN (σ 4 c) < 12) (hc : c < 8 * zN (σ 0 0)) : mInv (ins σ c p t q g) := by
  have h8 : c < 80 := by have := h.nA.2; omega
  have e : σ 4 c + 1 = nI (zN (σ 4 c) + 1) := by
    have := (h.sz h8).1
    rw [this, nI_1, ← this]
  have := mInv_4 (c := c) (x := σ 4 c + 1) h (by rw [e]; exact nn_nI (by omega) (by decide)) hc
  refine mInv_of this (fun k hk => ?_)
  by_cases h4 : k = 4
  · subst h4
    rw [ins_4, ms_u_k]
  · rw [ins_n (by omega), ms_u_n h4]
/-- two states alike at the stack of a cell -/
def eqC (σ τ : MS) (c : Nat) : Prop := τ 4 c = σ 4 c ∧ ∀ k, k < 12 → τ 5 (12 * c + k) = σ 5 (12 * c + k) ∧ τ 6 (12 * c + k) = σ 6 (12 * c + k) ∧ τ 7 (12 * c + k) = σ 7 (12 * c + k)
theorem eqC.refl (σ : MS) (c : Nat) : eqC σ σ c := ⟨rfl, fun _ _ => ⟨rfl, rfl, rfl⟩⟩
theorem eqC.trans {σ τ υ : MS} {c : Nat} (h1 : eqC σ τ c) (h2 : eqC τ υ c) : eqC σ υ c := ⟨h2.1.trans h1.1, fun k hk => ⟨(h2.2 k hk).1.trans (h1.2 k hk).1, (h2.2 k hk).2.1.trans (h1.2 k hk).2.1, (h2.2 k hk).2.2.trans (h1.2 k hk).2.2⟩⟩
theorem grf_cong {tg tg' pm pm' : Nat → Int32} {t : Int32} {w : Bool} : ∀ {n : Nat}, (∀ k, k < n → tg' k = tg k ∧ pm' k = pm k) → grf tg' pm' t w n = grf tg pm t w n
  | 0, _ => rfl
  | n + 1, h => by
    unfold grf
    rw [(h n (by omega)).1, (h n (by omega)).2, grf_cong (n := n) (fun k hk => h k (by omega))]
theorem srw_cong {pm pm' : Nat → Int32} : ∀ {f j : Nat}, (∀ k, j ≤ k → k < j + f → pm' k = pm k) → srw pm' f j = srw pm f j
  | 0, _, _ => rfl
  | f + 1, j, h => by
    unfold srw
    rw [h j (by omega) (by omega), srw_cong (f := f) (fun k h1 h2 => h k (by omega) (by omega))]
theorem abf_cong {pm pm' : Nat → Int32} {n j : Nat} (hj : j < n) (h : ∀ k, k < n → pm' k = pm k) : abf pm' n j = abf pm n j := by
  unfold abf
  rw [h j hj, srw_cong (fun k h1 h2 => h k (by omega))]
theorem gdf_cong {pm pm' gd gd' : Nat → Int32} {all : Bool} : ∀ {f j : Nat}, (∀ k, j ≤ k → k < j + f → pm' k = pm k ∧ gd' k = gd k) → gdf pm' gd' all f j = gdf pm gd all f j
  | 0, _, _ => rfl
  | f + 1, j, h => by
    unfold gdf
    rw [(h j (by omega) (by omega)).1, (h j (by omega) (by omega)).2, gdf_cong (f := f) (fun k h1 h2 => h k (by omega) (by omega))]
theorem gr_cong {σ τ : MS} {c : Nat} {t : Int32} {w : Bool} (h : eqC σ τ c) (hn : zN (σ 4 c) ≤ 12) : gr τ c t w = gr σ c t w := by
  unfold gr
  rw [h.1]
  exact grf_cong (fun k hk => ⟨(h.2 k (by omega)).1, (h.2 k (by omega)).2.1⟩)
theorem ab_cong {σ τ : MS} {c j : Nat} (h : eqC σ τ c) (hn : zN (σ 4 c) ≤ 12) (hj : j < zN (σ 4 c)) : ab τ c j = ab σ c j := by
  unfold ab
  rw [h.1]
  exact abf_cong hj (fun k hk => (h.2 k (by omega)).2.1)
theorem dis_eqC {σ : MS} {lo hi c c' : Nat} (h1 : 12 * c ≤ lo) (h2 : hi ≤ 12 * c + 12) (hc : c' ≠ c) : eqC σ (dis σ lo hi) c' := by
  refine ⟨by rw [dis_n (by decide)], fun k hk => ⟨by rw [dis_n (by decide)], ?_, by rw [dis_n (by decide)]⟩⟩
  unfold dis
  rw [if_neg (by omega)]
theorem u4_eqC {σ : MS} {c c' : Nat} {x : Int32} (hc : c' ≠ c) : eqC σ (ms_u σ 4 c x) c' := by
  refine ⟨by rw [ms_u_k]; exact if_neg hc, fun k hk => ⟨by rw [ms_u_n (by decide)], by rw [ms_u_n (by decide)], by rw [ms_u_n (by decide)]⟩⟩
theorem ins_far {σ : MS} {c p : Nat} {t q g : Int32} {c' k j : Nat} (hj : j = 5 ∨ j = 6 ∨ j = 7) (hn : zN (σ 4 c) < 12) (hp : p ≤ zN (σ 4 c)) (hc : c' ≠ c) (hk : k < 12) : ins σ c p t q g j (12 * c' + k) = σ j (12 * c' + k) := by
  have hne : 12 * c' + k ≠ 12 * c + p := by omega
  unfold ins
  rw [ms_u_n (by omega)]
  have key : sh3 σ (12 * c + p) (12 * c + zN (σ 4 c)) j (12 * c' + k) = σ j (12 * c' + k) := by
    unfold sh3
    rw [if_pos hj]
    unfold shf
    rw [if_neg (by omega)]
  by_cases h7 : j = 7
  · subst h7
    rw [ms_u_k]
    unfold upd
    rw [if_neg hne, ms_u_n (by decide), ms_u_n (by decide)]
    exact key
  · rw [ms_u_n h7]
    by_cases h6 : j = 6
    · subst h6
      rw [ms_u_k]
      unfold upd
      rw [if_neg hne, ms_u_n (by decide)]
      exact key
    · rw [ms_u_n h6]
      have h5 : j = 5 := by omega
      subst h5
      rw [ms_u_k]
      unfold upd
      rw [if_neg hne]
      exact key
theorem ins_eqC {σ : MS} {c p : Nat} {t q g : Int32} {c' : Nat} (hn : zN (σ 4 c) < 12) (hp : p ≤ zN (σ 4 c)) (hc : c' ≠ c) : eqC σ (ins σ c p t q g) c' := by
  refine ⟨by rw [ins_4]; exact if_neg hc, fun k hk => ⟨ins_far (by decide) hn hp hc hk, ins_far (by decide) hn hp hc hk, ins_far (by decide) hn hp hc hk⟩⟩
