/-! the script: text, its parse as the reference does it, its commands -/
def pN (σ : MS) : Nat := zN (σ 18 0)
def pA (σ : MS) : Nat := zN (σ 22 0)
def sAt (σ : MS) (a : Nat) : MS := ms_u σ 22 0 (nI a)
def skp (t : Nat → Int32) : Nat → Nat → Nat
  | 0, a => a
  | f + 1, a => if t a = 32 then skp t f (a + 1) else a
theorem skp_le {t : Nat → Int32} : ∀ (f a : Nat), a ≤ skp t f a ∧ skp t f a ≤ a + f
  | 0, a => by unfold skp; omega
  | f + 1, a => by
    unfold skp
    split
    · have := skp_le (t := t) f (a + 1); omega
    · omega
def t_bl (σ : MS) : MS := sAt σ (skp (σ 17) (pN σ - pA σ) (pA σ))
def isAt (σ : MS) (a : Nat) (lo hi : Int32) : Bool := decide (a < pN σ) && decide (lo ≤ σ 17 a ∧ σ 17 a ≤ hi)
def dg (σ : MS) (a : Nat) : Bool := isAt σ a 48 57
/-- a state in the midst of a parse -/
def pOk (σ : MS) : Prop := mInv σ ∧ σ 22 0 = nI (pA σ) ∧ pA σ ≤ pN σ ∧ σ 21 0 = nI (zN (σ 21 0)) ∧ 2 * zN (σ 21 0) ≤ pA σ
theorem sAt_n {σ : MS} {a k : Nat} (h : k ≠ 22) : sAt σ a k = σ k := ms_u_n h
theorem sAt_22 {σ : MS} {a : Nat} : sAt σ a 22 0 = nI a := rfl
theorem sAt_A {σ : MS} {a : Nat} (h : a ≤ 120) : pA (sAt σ a) = a := zN_nI (by omega)
theorem sAt_s (σ : MS) (a b : Nat) : sAt (sAt σ a) b = sAt σ b := ms_uu σ 22 0 _ _
theorem sAt_N {σ : MS} {a : Nat} : pN (sAt σ a) = pN σ := rfl
theorem sAt_at {σ : MS} {a b : Nat} {lo hi : Int32} : isAt (sAt σ a) b lo hi = isAt σ b lo hi := rfl
theorem pOk.n {σ : MS} (h : pOk σ) : pN σ ≤ 120 := h.1.ln.2
theorem pOk.e {σ : MS} (h : pOk σ) : sAt σ (pA σ) = σ := by
  unfold sAt
  rw [← h.2.1]
  exact ms_u_e σ 22 0
theorem pOk_at {σ : MS} {a : Nat} (h : pOk σ) (h1 : pA σ ≤ a) (h2 : a ≤ pN σ) : pOk (sAt σ a) := by
  have hn := h.n
  have e : pA (sAt σ a) = a := sAt_A (by omega)
  refine ⟨mInv_u h.1 (by decide), by rw [e]; rfl, by rw [e]; exact h2, h.2.2.2.1, ?_⟩
  rw [e]
  exact Nat.le_trans h.2.2.2.2 h1
theorem pOk_u {σ : MS} {k i : Nat} {x : Int32} (h : pOk σ) (hk : k = 19 ∨ k = 20) : pOk (ms_u σ k i x) := by
  have e22 : ms_u σ k i x 22 = σ 22 := ms_u_n (by omega)
  have e18 : ms_u σ k i x 18 = σ 18 := ms_u_n (by omega)
  have e21 : ms_u σ k i x 21 = σ 21 := ms_u_n (by omega)
  unfold pOk pA pN
  rw [e22, e18, e21]
  exact ⟨mInv_u h.1 (by omega), h.2⟩
theorem pOk_bl {σ : MS} (h : pOk σ) : pOk (t_bl σ) ∧ pA σ ≤ pA (t_bl σ) ∧ (∀ k, k ≠ 22 → t_bl σ k = σ k) := by
  have h1 := h.2.2.1
  have hn := h.n
  have := skp_le (t := σ 17) (pN σ - pA σ) (pA σ)
  refine ⟨pOk_at h this.1 (by omega), ?_, fun k hk => sAt_n hk⟩
  unfold t_bl
  rw [sAt_A (by omega)]
  exact this.1
/-- digits: two at most, from a on -/
def t_dig (σ : MS) (to a : Nat) : Bool × MS :=
  if dg σ a = true then (if dg σ (a + 1) = true then (!dg σ (a + 2), ms_u (sAt σ (a + 2)) 20 to (10 * (10 * 0 + σ 17 a - 48) + σ 17 (a + 1) - 48)) else (true, ms_u (sAt σ (a + 1)) 20 to (10 * 0 + σ 17 a - 48))) else (false, ms_u (sAt σ a) 20 to 0)
def t_num (σ : MS) (to : Nat) : Bool × MS := t_dig (t_bl σ) to (pA (t_bl σ))
theorem dg_lt {σ : MS} {a : Nat} (h : dg σ a = true) : a < pN σ := by
  unfold dg isAt at h
  rw [Bool.and_eq_true, decide_eq_true_eq] at h
  exact h.1
theorem dig_ok {σ : MS} {to : Nat} (h : pOk σ) : pOk (t_dig σ to (pA σ)).2 ∧ pA σ ≤ pA (t_dig σ to (pA σ)).2 ∧ ∀ k, k ≠ 22 → k ≠ 20 → (t_dig σ to (pA σ)).2 k = σ k := by
  have hn := h.n
  have h1 := h.2.2.1
  unfold t_dig
  split
  · next d0 =>
    have := dg_lt d0
    split
    · next d1 =>
      have := dg_lt d1
      refine ⟨pOk_u (pOk_at h (by omega) (by omega)) (by decide), ?_, fun k h1 h2 => by show ms_u _ _ _ _ k = _; rw [ms_u_n h2, sAt_n h1]⟩
      show _ ≤ pA (sAt σ (pA σ + 2))
      rw [sAt_A (by omega)]
      omega
    · refine ⟨pOk_u (pOk_at h (by omega) (by omega)) (by decide), ?_, fun k h1 h2 => by show ms_u _ _ _ _ k = _; rw [ms_u_n h2, sAt_n h1]⟩
      show _ ≤ pA (sAt σ (pA σ + 1))
      rw [sAt_A (by omega)]
      omega
  · refine ⟨pOk_u (pOk_at h (by omega) (by omega)) (by decide), ?_, fun k h1 h2 => by show ms_u _ _ _ _ k = _; rw [ms_u_n h2, sAt_n h1]⟩
    show _ ≤ pA (sAt σ (pA σ))
    rw [sAt_A (by omega)]
    omega
theorem num_ok {σ : MS} {to : Nat} (h : pOk σ) : pOk (t_num σ to).2 ∧ pA σ ≤ pA (t_num σ to).2 ∧ ∀ k, k ≠ 22 → k ≠ 20 → (t_num σ to).2 k = σ k := by
  obtain ⟨h1, h2, h3⟩ := pOk_bl h
  obtain ⟨g1, g2, g3⟩ := dig_ok (to := to) h1
  exact ⟨g1, Nat.le_trans h2 g2, fun k a b => (g3 k a b).trans (h3 k a)⟩
def mny (c : Int32) : Option Nat := if c = 119 ∨ c = 109 ∨ c = 115 ∨ c = 112 then some 3 else if c = 114 then some 2 else if c = 97 ∨ c = 102 then some 1 else if c = 101 ∨ c = 108 then some 0 else none
theorem mny_3 {c : Int32} {m : Nat} (h : mny c = some m) : m ≤ 3 := by
  unfold mny at h
  split at h
  · cases h; omega
  · split at h
    · cases h; omega
    · split at h
      · cases h; omega
      · split at h
        · cases h; omega
        · cases h
def t_nums (base : Nat) : Nat → Nat → MS → Bool × MS
  | 0, _, σ => (true, σ)
  | f + 1, k, σ => if (t_num σ (base + k)).1 = true then t_nums base f (k + 1) (t_num σ (base + k)).2 else (false, (t_num σ (base + k)).2)
theorem nums_ok {base : Nat} : ∀ (f k : Nat) (σ : MS), pOk σ → pOk (t_nums base f k σ).2 ∧ pA σ ≤ pA (t_nums base f k σ).2 ∧ ∀ j, j ≠ 22 → j ≠ 20 → (t_nums base f k σ).2 j = σ j
  | 0, _, σ, h => ⟨h, Nat.le_refl _, fun _ _ _ => rfl⟩
  | f + 1, k, σ, h => by
    obtain ⟨g1, g2, g3⟩ := num_ok (to := base + k) h
    unfold t_nums
    split
    · obtain ⟨e1, e2, e3⟩ := nums_ok (base := base) f (k + 1) _ g1
      exact ⟨e1, Nat.le_trans g2 e2, fun j a b => (e3 j a b).trans (g3 j a b)⟩
    · exact ⟨g1, g2, g3⟩
/-- the end of a command -/
def t_end (τ : MS) : Bool × MS := if isAt τ (pA τ) 59 59 = true then (true, t_bl (ms_u (sAt τ (pA τ + 1)) 21 0 (τ 21 0 + 1))) else (false, τ)
def t_beg (σ : MS) : MS := sAt (ms_u σ 19 (zN (σ 21 0)) (σ 17 (pA σ))) (pA σ + 1)
def t_cmd (σ : MS) : Bool × MS := match mny (σ 17 (pA σ)) with
  | none => (false, σ)
  | some m => if (t_nums (3 * zN (σ 21 0)) m 0 (t_beg σ)).1 = true then t_end (t_bl (t_nums (3 * zN (σ 21 0)) m 0 (t_beg σ)).2) else (false, (t_nums (3 * zN (σ 21 0)) m 0 (t_beg σ)).2)
def t_all : Nat → MS → Bool × MS
  | 0, σ => (true, σ)
  | f + 1, σ => if pA σ < pN σ then (if (t_cmd σ).1 = true then t_all f (t_cmd σ).2 else t_cmd σ) else (true, σ)
def t_ini (σ : MS) : MS := t_bl (ms_u (ms_u σ 22 0 0) 21 0 0)
def t_read (σ : MS) : Bool × MS := if pA (t_ini σ) < pN (t_ini σ) then t_all (pN σ) (t_ini σ) else (false, t_ini σ)
theorem beg_ok {σ : MS} (h : pOk σ) (ha : pA σ < pN σ) : pOk (t_beg σ) ∧ pA (t_beg σ) = pA σ + 1 ∧ ∀ j, j ≠ 22 → j ≠ 19 → t_beg σ j = σ j := by
  have hn := h.n
  refine ⟨pOk_at (pOk_u h (by decide)) (by show pA σ ≤ _; omega) (by show _ ≤ pN σ; omega), sAt_A (by omega), fun j a b => ?_⟩
  unfold t_beg
  rw [sAt_n a, ms_u_n b]
theorem end_ok {τ : MS} (h : pOk τ) (h2 : 2 * zN (τ 21 0) + 1 ≤ pA τ) : pOk (t_end τ).2 ∧ pA τ ≤ pA (t_end τ).2 ∧ ((t_end τ).1 = true → pA τ + 1 ≤ pA (t_end τ).2) ∧ ∀ j, j ≠ 22 → j ≠ 21 → (t_end τ).2 j = τ j := by
  have hn := h.n
  unfold t_end
  split
  · next hi =>
    have hlt : pA τ < pN τ := by
      unfold isAt at hi
      rw [Bool.and_eq_true, decide_eq_true_eq] at hi
      exact hi.1
    have hx : pOk (ms_u (sAt τ (pA τ + 1)) 21 0 (τ 21 0 + 1)) := by
      have e21 : ms_u (sAt τ (pA τ + 1)) 21 0 (τ 21 0 + 1) 21 0 = τ 21 0 + 1 := rfl
      have hz := zN_s (x := τ 21 0) (b := 120) ⟨h.2.2.2.1, by omega⟩ (by decide)
      have eA : pA (ms_u (sAt τ (pA τ + 1)) 21 0 (τ 21 0 + 1)) = pA τ + 1 := sAt_A (σ := τ) (by omega)
      refine ⟨mInv_u (mInv_u h.1 (by decide)) (by decide), by rw [eA]; rfl, by rw [eA]; exact hlt, ?_, ?_⟩
      · rw [e21, hz.2]; exact hz.1
      · rw [e21, hz.2, eA]; omega
    obtain ⟨b1, b2, b3⟩ := pOk_bl hx
    have eA : pA (ms_u (sAt τ (pA τ + 1)) 21 0 (τ 21 0 + 1)) = pA τ + 1 := sAt_A (σ := τ) (by omega)
    rw [eA] at b2
    refine ⟨b1, by show pA τ ≤ pA (t_bl _); omega, fun _ => b2, fun j a b => ?_⟩
    show t_bl _ j = _
    rw [b3 j a, ms_u_n b, sAt_n a]
  · exact ⟨h, Nat.le_refl _, fun q => Bool.noConfusion (show false = true from q), fun _ _ _ => rfl⟩
theorem cmd_ok {σ : MS} (h : pOk σ) (ha : pA σ < pN σ) : pOk (t_cmd σ).2 ∧ pA σ ≤ pA (t_cmd σ).2 ∧ ((t_cmd σ).1 = true → pA σ + 1 ≤ pA (t_cmd σ).2) ∧ ∀ j, j < 19 → (t_cmd σ).2 j = σ j := by
  unfold t_cmd
  split
  · exact ⟨h, Nat.le_refl _, fun q => Bool.noConfusion (show false = true from q), fun _ _ => rfl⟩
  · next m hm =>
    obtain ⟨b1, b2, b3⟩ := beg_ok h ha
    obtain ⟨n1, n2, n3⟩ := nums_ok (base := 3 * zN (σ 21 0)) m 0 _ b1
    split
    · obtain ⟨l1, l2, l3⟩ := pOk_bl n1
      have e21 : (t_bl (t_nums (3 * zN (σ 21 0)) m 0 (t_beg σ)).2) 21 = σ 21 := by rw [l3 21 (by decide), n3 21 (by decide) (by decide), b3 21 (by decide) (by decide)]
      obtain ⟨e1, e2, e3, e4⟩ := end_ok l1 (by rw [e21]; have := h.2.2.2.2; omega)
      refine ⟨e1, by omega, fun _ => by omega, fun j hj => ?_⟩
      rw [e4 j (by omega) (by omega), l3 j (by omega), n3 j (by omega) (by omega), b3 j (by omega) (by omega)]
    · refine ⟨n1, by show pA σ ≤ pA (t_nums (3 * zN (σ 21 0)) m 0 (t_beg σ)).2; omega, fun q => Bool.noConfusion (show false = true from q), fun j hj => ?_⟩
      show (t_nums _ _ _ _).2 j = _
      rw [n3 j (by omega) (by omega), b3 j (by omega) (by omega)]
theorem all_ok : ∀ (f : Nat) (σ : MS), pOk σ → pOk (t_all f σ).2 ∧ ∀ j, j < 19 → (t_all f σ).2 j = σ j
  | 0, σ, h => ⟨h, fun _ _ => rfl⟩
  | f + 1, σ, h => by
    unfold t_all
    split
    · next ha =>
      obtain ⟨c1, c2, c3, c4⟩ := cmd_ok h ha
      split
      · obtain ⟨e1, e2⟩ := all_ok f _ c1
        exact ⟨e1, fun j hj => (e2 j hj).trans (c4 j hj)⟩
      · exact ⟨c1, c4⟩
    · exact ⟨h, fun _ _ => rfl⟩
theorem ini_ok {σ : MS} (hI : mInv σ) : pOk (t_ini σ) ∧ ∀ j, j < 19 → t_ini σ j = σ j := by
  have hx : pOk (ms_u (ms_u σ 22 0 0) 21 0 0) := ⟨mInv_u (mInv_u hI (by decide)) (by decide), rfl, Nat.zero_le _, rfl, Nat.le_refl _⟩
  obtain ⟨b1, -, b3⟩ := pOk_bl hx
  refine ⟨b1, fun j hj => ?_⟩
  unfold t_ini
  rw [b3 j (by omega), ms_u_n (by omega), ms_u_n (by omega)]
theorem read_ok {σ : MS} (hI : mInv σ) : pOk (t_read σ).2 ∧ ∀ j, j < 19 → (t_read σ).2 j = σ j := by
  obtain ⟨i1, i2⟩ := ini_ok hI
  unfold t_read
  split
  · obtain ⟨e1, e2⟩ := all_ok (pN σ) _ i1
    exact ⟨e1, fun j hj => (e2 j hj).trans (i2 j hj)⟩
  · exact ⟨i1, i2⟩
/-- a command -/
def s_cmd (σ : MS) (c x y z : Int32) : Int32 × MS := if c = 97 then s_alloc σ x else if c = 114 then s_read σ x y else if c = 119 then s_write σ x y z else if c = 109 then s_reb σ x 0 y z 0 else if c = 115 then s_reb σ x 1 y z 0 else if c = 112 then s_reb σ x 2 y z 0 else if c = 102 then s_free σ x else if c = 101 then s_enter σ else s_leave σ
def s_exe (σ : MS) (k : Nat) : Int32 × MS := s_cmd σ (σ 19 k) (σ 20 (3 * k)) (σ 20 (3 * k + 1)) (σ 20 (3 * k + 2))
theorem ok_cmd {σ : MS} {c x y z : Int32} (hI : mInv σ) : mInv (s_cmd σ c x y z).2 ∧ ∀ k, kScr k → (s_cmd σ c x y z).2 k = σ k := by
  unfold s_cmd
  split
  · exact ok_alloc hI
  · split
    · exact ok_read hI
    · split
      · exact ok_write hI
      · split
        · exact ok_reb hI
        · split
          · exact ok_reb hI
          · split
            · exact ok_reb hI
            · split
              · exact ok_free hI
              · split
                · exact ok_enter hI
                · exact ok_leave hI
def s_exa : Nat → Nat → MS → Int32 × MS
  | 0, _, σ => (σ 21 0, σ)
  | f + 1, k, σ => if (s_exe σ k).1 ≤ -2 then (-1000 - nI k, (s_exe σ k).2) else s_exa f (k + 1) (s_exe σ k).2
theorem exa_ok : ∀ (f k : Nat) (σ : MS), mInv σ → mInv (s_exa f k σ).2 ∧ ∀ j, kScr j → (s_exa f k σ).2 j = σ j
  | 0, _, σ, h => ⟨h, fun _ _ => rfl⟩
  | f + 1, k, σ, h => by
    obtain ⟨e1, e2⟩ := ok_cmd (c := σ 19 k) (x := σ 20 (3 * k)) (y := σ 20 (3 * k + 1)) (z := σ 20 (3 * k + 2)) h
    unfold s_exa
    split
    · exact ⟨e1, e2⟩
    · obtain ⟨g1, g2⟩ := exa_ok f (k + 1) _ e1
      exact ⟨g1, fun j hj => (g2 j hj).trans (e2 j hj)⟩
def s_run (σ : MS) : Int32 × MS := if (t_read σ).1 = true then ((s_exa (zN ((t_read σ).2 21 0)) 0 (ms_u (t_read σ).2 16 0 1)).1, ms_u (s_exa (zN ((t_read σ).2 21 0)) 0 (ms_u (t_read σ).2 16 0 1)).2 16 0 0) else (-10 - (t_read σ).2 22 0, (t_read σ).2)
theorem ok_run {σ : MS} (hI : mInv σ) : mInv (s_run σ).2 := by
  unfold s_run
  have h := read_ok hI
  split
  · exact mInv_u (exa_ok _ _ _ (mInv_u h.1.1 (by decide))).1 (by decide)
  · exact h.1.1
