theorem isPc_of {σ τ : MS} {p i : Nat} (h : isPc σ p i) (e8 : τ 8 = σ 8) (e9 : τ 9 = σ 9) (e1 : τ 1 = σ 1) : isPc τ p i := by
  unfold isPc
  rw [e8, e9, e1]
  exact h
theorem cO_of {σ τ : MS} {p i : Nat} (e9 : τ 9 = σ 9) : cO τ p i = cO σ p i := by
  unfold cO
  rw [e9]
theorem dRd_n {σ : MS} {p i k : Nat} (h : k ≠ 6) : dRd σ p i k = σ k := dis_n h
theorem dWr_n {σ : MS} {p i k : Nat} (h : k ≠ 4) : dWr σ p i k = σ k := by
  unfold dWr
  cases gr σ (cO σ p i) (nI p) true with
  | none => rfl
  | some j => exact ms_u_n h
theorem dWr_4 {σ : MS} {p i k : Nat} (h : gr σ (cO σ p i) (nI p) true = some k) : dWr σ p i 4 (cO σ p i) = nI (ab σ (cO σ p i) k) := by
  unfold dWr
  rw [h]
  show ms_u σ 4 _ _ 4 _ = _
  rw [ms_u_k]
  exact if_pos rfl
/-- what a put leaves -/
theorem pt_ok {σ : MS} {p i : Nat} {kd g : Int32} (hI : mInv σ) (h : isPc σ p i) (hg : ¬ kd = 1 → ∃ k, gr σ (cO σ p i) (nI p) true = some k) (hs : szB σ p kd i ≤ 12) :
    mInv (pt σ p kd i g) ∧ (∀ k, ¬ (k = 4 ∨ k = 5 ∨ k = 6 ∨ k = 7) → pt σ p kd i g k = σ k) ∧ ∀ c, c ≠ cO σ p i → eqC σ (pt σ p kd i g) c := by
  have hc : cO σ p i < 80 := (hI.cell h).2
  have hn := hI.sz hc
  have hn12 := hn.2
  have h8 := hI.c8 h
  unfold pt
  by_cases k0 : kd = 0
  · rw [if_pos k0]
    obtain ⟨k, hg⟩ := hg (by rw [k0]; decide)
    have hab : ab σ (cO σ p i) k ≤ _ := (abf_le (pm := fun k => σ 6 (12 * cO σ p i + k)) (grf_lt hg)).2
    have hz : zN (dWr σ p i 4 (cO σ p i)) = ab σ (cO σ p i) k := by rw [dWr_4 hg]; exact zN_nI (by omega)
    have hlt : zN (dWr σ p i 4 (cO σ p i)) < 12 := by
      rw [hz]
      rw [szB, if_pos k0, hg] at hs
      exact Nat.lt_of_succ_le (by rw [Nat.add_comm] at hs; exact hs)
    refine ⟨mInv_ins (mInv_dWr hI h) hlt (by rw [dWr_n (by decide)]; exact h8), fun k hk => ?_, fun c hc' => ?_⟩
    · rw [ins_n hk, dWr_n (by omega)]
    · refine eqC.trans (τ := dWr σ p i) ?_ (ins_eqC hlt (Nat.le_refl _) hc')
      unfold dWr
      rw [hg]
      exact u4_eqC hc'
  · rw [if_neg k0]
    have hs' : zN (σ 4 (cO σ p i)) < 12 := by rw [szB, if_neg k0] at hs; omega
    by_cases k1 : kd = 1
    · rw [if_pos k1]
      have e4 : dRd σ p i 4 = σ 4 := dRd_n (by decide)
      refine ⟨mInv_ins (mInv_dRd hI) (by rw [e4]; exact hs') (by rw [dRd_n (by decide)]; exact h8), fun k hk => ?_, fun c hc' => ?_⟩
      · rw [ins_n hk, dRd_n (by omega)]
      · refine eqC.trans (τ := dRd σ p i) (dis_eqC (by omega) (by omega) hc') (ins_eqC (by rw [e4]; exact hs') (by rw [e4]; exact Nat.le_refl _) hc')
    · rw [if_neg k1]
      obtain ⟨k, hg⟩ := hg k1
      rw [hg]
      have hab : ab σ (cO σ p i) k ≤ _ := (abf_le (pm := fun k => σ 6 (12 * cO σ p i + k)) (grf_lt hg)).2
      exact ⟨mInv_ins hI hs' h8, fun k hk => ins_n hk, fun c hc' => ins_eqC hs' hab hc'⟩
theorem szB_cong {σ τ : MS} {p i : Nat} {kd : Int32} (e9 : τ 9 = σ 9) (hn : zN (σ 4 (cO σ p i)) ≤ 12) (h : eqC σ τ (cO σ p i)) : szB τ p kd i = szB σ p kd i := by
  unfold szB
  rw [cO_of e9, gr_cong h hn, h.1]
  cases hg : gr σ (cO σ p i) (nI p) true with
  | none => rfl
  | some k =>
    show 1 + (if kd = 0 then ab τ (cO σ p i) k else _) = _
    rw [ab_cong h hn (grf_lt hg)]
/-- the questions -/
def s_ckR (σ : MS) (p c : Int32) : Int32 × MS := if isC σ p c = true then (rdK σ (zN p) (zN c), σ) else (-2, err σ 0)
def s_ckW (σ : MS) (p c : Int32) : Int32 × MS := if isC σ p c = true then (wrK σ (zN p) (zN c), σ) else (-2, err σ 0)
def s_ckF (σ : MS) (p : Int32) : Int32 × MS := if inb p (zN (σ 8 0)) = true then (match fsV (frK σ (zN p)) (zN (σ 1 (zN (σ 9 (zN p))))) 0 with
    | some i => (frK σ (zN p) i, σ)
    | none => (0, σ)) else (-2, err σ 0)
def s_rmv (σ : MS) (p c : Int32) : Int32 × MS := if isC σ p c = true then (if wrK σ (zN p) (zN c) = 0 then (match gr σ (cO σ (zN p) (zN c)) (nI (zN p)) true with
    | some k => (σ 4 (cO σ (zN p) (zN c)) - nI (ab σ (cO σ (zN p) (zN c)) k), σ)
    | none => (-1, σ)) else (-1, σ)) else (-2, err σ 0)
/-- an allocation's cell -/
def isA (σ : MS) (a c : Int32) : Bool := inb a (zN (σ 0 0)) && inb c (zN (σ 1 (zN a)))
theorem isA_t {σ : MS} (hI : mInv σ) {a c : Int32} (h : isA σ a c = true) : ∃ j i, a = nI j ∧ c = nI i ∧ j < zN (σ 0 0) ∧ i < zN (σ 1 j) ∧ j < 10 ∧ i < 8 := by
  unfold isA at h
  rw [Bool.and_eq_true] at h
  have h2 := hI.nA.2
  obtain ⟨j, hj, rfl⟩ := inb_t (by omega) h.1
  have h3 := (hI.cl hj).1.2
  have h4 := h.2
  rw [zN_nI (by omega)] at h4
  obtain ⟨i, hi, rfl⟩ := inb_t (by omega) h4
  exact ⟨j, i, rfl, rfl, hj, hi, by omega, by omega⟩
def isI (σ : MS) (a c x : Int32) : Bool := isA σ a c && inb x (zN (σ 4 (8 * zN a + zN c)))
def iPl (a c x : Int32) : Nat := 12 * (8 * zN a + zN c) + zN x
def s_siz (σ : MS) (a c : Int32) : Int32 × MS := if isA σ a c = true then (σ 4 (8 * zN a + zN c), σ) else (-2, err σ 0)
def s_itm (σ : MS) (k : Nat) (a c x : Int32) : Int32 × MS := if isI σ a c x = true then (σ k (iPl a c x), σ) else (-2, err σ 0)
def s_itp (σ : MS) (a c x : Int32) : Int32 × MS := if isI σ a c x = true then (if 0 < σ 7 (iPl a c x) then 1 else 0, σ) else (-2, err σ 0)
def s_ptr (σ : MS) (k : Nat) (p : Int32) : Int32 × MS := if inb p (zN (σ 8 0)) = true then (σ k (zN p), σ) else (-2, err σ 0)
/-- how many of f cells from i on have a live item of the pointer -/
def lvf (σ : MS) (p : Nat) : Nat → Nat → Nat
  | 0, _ => 0
  | f + 1, i => (if (gr σ (cO σ p i) (nI p) false).isSome then 1 else 0) + lvf σ p f (i + 1)
def lvO (σ : MS) (p : Nat) : Nat := if σ 2 (zN (σ 9 p)) = 0 then lvf σ p (zN (σ 1 (zN (σ 9 p)))) 0 else 0
def s_liv (σ : MS) (p : Int32) : Int32 × MS := if inb p (zN (σ 8 0)) = true then (nI (lvO σ (zN p)), σ) else (-2, err σ 0)
def s_frd (σ : MS) (a : Int32) : Int32 × MS := if inb a (zN (σ 0 0)) = true then (if σ 2 (zN a) = 0 then 0 else 1, σ) else (-2, err σ 0)
def s_erc (σ : MS) (k : Int32) : Int32 × MS := if 0 ≤ k ∧ k ≤ 2 then (σ 15 (zN k), σ) else (-2, err σ 0)
def s_app (σ : MS) (v : Int32) : Int32 × MS := if 0 ≤ v ∧ v ≤ 127 then (if σ 18 0 = 120 then (-4, err σ 2) else (σ 18 0 + 1, ms_u (ms_u σ 17 (zN (σ 18 0)) v) 18 0 (σ 18 0 + 1))) else (-2, err σ 0)
def s_clt (σ : MS) : Int32 × MS := (σ 18 0, ms_u σ 18 0 0)
