/-! each operation keeps the rows as they must be, and the script's rows as they were -/
theorem u_e (f : Nat → Int32) (i : Nat) : upd f i (f i) = f := by
  funext j
  unfold upd
  split
  · next h => rw [h]
  · rfl
theorem ms_u_e (σ : MS) (k i : Nat) : ms_u σ k i (σ k i) = σ := by
  funext j
  by_cases h : j = k
  · subst h
    rw [ms_u_k, u_e]
  · rw [ms_u_n h]
theorem ms_uu (σ : MS) (k i : Nat) (a b : Int32) : ms_u (ms_u σ k i a) k i b = ms_u σ k i b := by
  funext j
  by_cases h : j = k
  · subst h
    rw [ms_u_k, ms_u_k, ms_u_k]
    funext i'
    unfold upd
    split <;> rfl
  · rw [ms_u_n h, ms_u_n h, ms_u_n h]
theorem nwP_n {σ : MS} {a b : Int32} {k : Nat} (h : ¬ (k = 8 ∨ k = 9 ∨ k = 10)) : nwP σ a b k = σ k := by
  unfold nwP
  rw [ms_u_n (by omega), ms_u_n (by omega), ms_u_n (by omega)]
theorem nwP_8 {σ : MS} {a b : Int32} : nwP σ a b 8 0 = σ 8 0 + 1 := by
  unfold nwP
  rw [ms_u_k]
  exact if_pos rfl
theorem nwP_9 {σ : MS} {a b : Int32} : nwP σ a b 9 = upd (σ 9) (zN (σ 8 0)) a := by
  unfold nwP
  rw [ms_u_n (by decide), ms_u_n (by decide), ms_u_k]
theorem nwP_10 {σ : MS} {a b : Int32} : nwP σ a b 10 = upd (σ 10) (zN (σ 8 0)) b := by
  unfold nwP
  rw [ms_u_n (by decide), ms_u_k, ms_u_n (by decide)]
theorem zN_s {x : Int32} {b : Nat} (h : nn x b) (hb : b < 1000) : x + 1 = nI (zN x + 1) ∧ zN (x + 1) = zN x + 1 := by
  have e : x + 1 = nI (zN x + 1) := by
    have h1 := h.1
    rw [h1, nI_1, ← h1]
  refine ⟨e, ?_⟩
  rw [e]
  exact zN_nI (by have := h.2; omega)
theorem mInv_nwP {σ : MS} {a : Nat} {b : Int32} (h : mInv σ) (hp : zN (σ 8 0) < 60) (ha : a < zN (σ 0 0)) : mInv (nwP σ (nI a) b) := by
  obtain ⟨e1, e2⟩ := zN_s h.nP (by decide)
  have hA := h.nA.2
  have hza : zN (nI a) = a := zN_nI (by omega)
  unfold mInv
  rw [nwP_n (k := 0) (by decide), nwP_n (k := 1) (by decide), nwP_n (k := 4) (by decide), nwP_n (k := 11) (by decide), nwP_n (k := 18) (by decide), nwP_8, nwP_9]
  refine ⟨h.nA, ?_, h.dp, h.ln, fun a ha => h.cl ha, fun p hp' => ?_, fun c hc => h.sz hc, fun c h1 hc => h.s0 h1 hc⟩
  · rw [e1]; exact nn_nI (by omega) (by decide)
  · rw [e2] at hp'
    unfold upd
    by_cases q : p = zN (σ 8 0)
    · rw [if_pos q, hza]
      exact ⟨nn_nI (by omega) (by decide), ha⟩
    · rw [if_neg q]
      exact h.ow (by omega)
theorem pts_ok {p : Nat} {kd g : Int32} : ∀ (f i : Nat) (τ : MS), mInv τ → (∀ i', i ≤ i' → i' < i + f → isPc τ p i' ∧ (¬ kd = 1 → ∃ k, gr τ (cO τ p i') (nI p) true = some k) ∧ szB τ p kd i' ≤ 12) →
    mInv (pts τ p kd g f i) ∧ (∀ k, ¬ (k = 4 ∨ k = 5 ∨ k = 6 ∨ k = 7) → pts τ p kd g f i k = τ k) ∧ ∀ c, (∀ i', i ≤ i' → i' < i + f → c ≠ cO τ p i') → eqC τ (pts τ p kd g f i) c
  | 0, i, τ, hI, _ => ⟨hI, fun _ _ => rfl, fun c _ => eqC.refl τ c⟩
  | f + 1, i, τ, hI, h => by
    obtain ⟨h1, h2, h3⟩ := h i (Nat.le_refl _) (by omega)
    obtain ⟨o1, o2, o3⟩ := pt_ok (g := g) hI h1 h2 h3
    have e9 := o2 9 (by decide)
    obtain ⟨q1, q2, q3⟩ := pts_ok (p := p) (kd := kd) (g := g) f (i + 1) (pt τ p kd i g) o1 (fun i' a1 a2 => by
      obtain ⟨g1, g2, g3⟩ := h i' (by omega) (by omega)
      have hne : cO τ p i' ≠ cO τ p i := by unfold cO; omega
      have hq := o3 _ hne
      have hn12 : zN (τ 4 (cO τ p i')) ≤ 12 := (hI.sz (hI.cell g1).2).2
      refine ⟨isPc_of g1 (o2 8 (by decide)) e9 (o2 1 (by decide)), fun hk => ?_, ?_⟩
      · rw [cO_of e9, gr_cong hq hn12]
        exact g2 hk
      · rw [szB_cong e9 hn12 hq]
        exact g3)
    refine ⟨q1, fun k hk => (q2 k hk).trans (o2 k hk), fun c hc => eqC.trans (o3 c (hc i (Nat.le_refl _) (by omega))) (q3 c (fun i' a1 a2 => ?_))⟩
    rw [cO_of e9]
    exact hc i' (by omega) (by omega)
/-- the fields that a script's commands leave -/
def kScr (k : Nat) : Prop := k = 16 ∨ k = 17 ∨ k = 18 ∨ k = 19 ∨ k = 20 ∨ k = 21 ∨ k = 22
theorem err_k {σ : MS} {j k : Nat} (h : k ≠ 15) : err σ j k = σ k := ms_u_n h
theorem vio_k {σ : MS} {a b : Int32} {k : Nat} (h : ¬ (k = 12 ∨ k = 13 ∨ k = 14)) : vio σ a b k = σ k := by
  unfold vio
  rw [ms_u_n (by omega), ms_u_n (by omega), ms_u_n (by omega)]
theorem ok_read {σ : MS} {p c : Int32} (hI : mInv σ) : mInv (s_read σ p c).2 ∧ ∀ k, kScr k → (s_read σ p c).2 k = σ k := by
  unfold s_read kScr
  split
  · split
    · exact ⟨mInv_dRd hI, fun k hk => dRd_n (by omega)⟩
    · exact ⟨mInv_vio hI, fun k hk => vio_k (by omega)⟩
  · exact ⟨mInv_err hI, fun k hk => err_k (by omega)⟩
theorem ok_write {σ : MS} {p c v : Int32} (hI : mInv σ) : mInv (s_write σ p c v).2 ∧ ∀ k, kScr k → (s_write σ p c v).2 k = σ k := by
  unfold s_write kScr
  split
  · next h =>
    split
    · obtain ⟨j, i, rfl, rfl, hp⟩ := isC_t hI h.1
      have h60 := hI.p60 hp.1
      have h8 := (hI.cell hp).1
      rw [zN_nI (by omega), zN_nI (by omega)]
      exact ⟨mInv_u (mInv_dWr hI hp) (by decide), fun k hk => by show ms_u _ _ _ _ k = _; rw [ms_u_n (by omega), dWr_n (by omega)]⟩
    · exact ⟨mInv_vio hI, fun k hk => vio_k (by omega)⟩
  · exact ⟨mInv_err hI, fun k hk => err_k (by omega)⟩
theorem reb_pre {σ : MS} (hI : mInv σ) {p fr ct : Int32} (h1 : isC σ p fr = true) (h4 : 1 ≤ ct ∧ ct ≤ σ 1 (zN (σ 9 (zN p))) - fr) : ∃ j i n, p = nI j ∧ fr = nI i ∧ ct = nI n ∧ isPc σ j i ∧ 1 ≤ n ∧ i + n ≤ zN (σ 1 (zN (σ 9 j))) ∧ zN p = j ∧ zN fr = i ∧ zN ct = n := by
  obtain ⟨j, i, rfl, rfl, hp⟩ := isC_t hI h1
  have h60 := hI.p60 hp.1
  have h8 := (hI.cell hp).1
  have hcl := (hI.cl (hI.ow hp.1).2).1
  have hcl2 := hcl.2
  have hp2 := hp.2
  have e1 : zN (nI j) = j := zN_nI (by omega)
  have e2 : zN (nI i) = i := zN_nI (by omega)
  have h5 := h4.2
  rw [e1, hcl.1, pk_sub (by omega)] at h5
  obtain ⟨n, a1, rfl⟩ := nI_of2 (x := ct) (M := nI (zN (σ 1 (zN (σ 9 j))) - i)) (n := zN (σ 1 (zN (σ 9 j))) - i) (nI_toInt (by omega)) (by rw [Int32.not_lt]; exact Int32.le_trans (by decide) h4.1) h5
  have h6 := h4.1
  rw [show (1 : Int32) = nI 1 from rfl, nI_leI (by decide) (by omega)] at h6
  exact ⟨j, i, n, rfl, rfl, rfl, hp, h6, by omega, e1, e2, zN_nI (by omega)⟩
theorem ok_reb {σ : MS} {p kd fr ct pr : Int32} (hI : mInv σ) : mInv (s_reb σ p kd fr ct pr).2 ∧ ∀ k, kScr k → (s_reb σ p kd fr ct pr).2 k = σ k := by
  unfold s_reb kScr
  split
  · next h =>
    obtain ⟨h1, h2, h3, h4⟩ := h
    split
    · exact ⟨mInv_err hI, fun k hk => err_k (by omega)⟩
    · obtain ⟨j, i, n, rfl, rfl, rfl, hp, hn1, hn, e1, e2, e3⟩ := reb_pre hI h1 h4
      rw [e1, e2, e3]
      split
      · exact ⟨mInv_vio hI, fun k hk => vio_k (by omega)⟩
      · next hv =>
        split
        · next hf =>
          have hlt : zN (σ 8 0) < 60 := by
            have h9 := hf.1
            have hnP := hI.nP
            rw [hnP.1, show (60 : Int32) = nI 60 from rfl, nI_ltI (by have := hnP.2; omega) (by decide)] at h9
            exact h9
          have ow := hI.ow hp.1
          obtain ⟨q1, q2, -⟩ := pts_ok (p := j) (kd := kd) (g := if pr = 1 then σ 11 0 else 0) n i σ hI (fun i' a1 a2 => ⟨⟨hp.1, by omega⟩, fun hk => pt_gr (fsV_none hv i' a1 a2) hk, fit_all hf.2 i' a1 a2⟩)
          refine ⟨?_, fun k hk => ?_⟩
          · show mInv (nwP _ (σ 9 j) _)
            rw [ow.1.1]
            exact mInv_nwP q1 (by rw [q2 8 (by decide)]; exact hlt) (by rw [q2 0 (by decide)]; exact ow.2)
          · show nwP _ _ _ k = _
            rw [nwP_n (by omega), q2 k (by omega)]
        · exact ⟨mInv_err hI, fun k hk => err_k (by omega)⟩
  · exact ⟨mInv_err hI, fun k hk => err_k (by omega)⟩
theorem ok_free {σ : MS} {p : Int32} (hI : mInv σ) : mInv (s_free σ p).2 ∧ ∀ k, kScr k → (s_free σ p).2 k = σ k := by
  unfold s_free kScr
  split
  · split
    · exact ⟨mInv_vio hI, fun k hk => vio_k (by omega)⟩
    · exact ⟨mInv_u hI (by decide), fun k hk => ms_u_n (by omega)⟩
  · exact ⟨mInv_err hI, fun k hk => err_k (by omega)⟩
theorem mInv_11 {σ : MS} {x : Int32} (h : mInv σ) (hx : nn x 5) : mInv (ms_u σ 11 0 x) := by
  obtain ⟨h1, h2, h3, h4, h5, h6, h7, h8⟩ := h
  unfold mInv
  rw [ms_u_n (k' := 0) (by decide), ms_u_n (k' := 1) (by decide), ms_u_n (k' := 8) (by decide), ms_u_n (k' := 9) (by decide), ms_u_n (k' := 4) (by decide), ms_u_n (k' := 18) (by decide), ms_u_k]
  exact ⟨h1, h2, hx, h4, h5, h6, h7, h8⟩
theorem ok_enter {σ : MS} (hI : mInv σ) : mInv (s_enter σ).2 ∧ ∀ k, kScr k → (s_enter σ).2 k = σ k := by
  unfold s_enter kScr
  split
  · exact ⟨mInv_err hI, fun k hk => err_k (by omega)⟩
  · next h =>
    obtain ⟨e1, e2⟩ := zN_s hI.dp (by decide)
    refine ⟨mInv_11 hI ?_, fun k hk => ms_u_n (by omega)⟩
    rw [e1]
    refine nn_nI ?_ (by decide)
    have h5 := hI.dp
    rcases Nat.lt_or_ge (zN (σ 11 0)) 5 with q | q
    · omega
    · exact absurd (by rw [h5.1, show zN (σ 11 0) = 5 by have := h5.2; omega]; rfl) h
theorem ok_leave {σ : MS} (hI : mInv σ) : mInv (s_leave σ).2 ∧ ∀ k, kScr k → (s_leave σ).2 k = σ k := by
  unfold s_leave kScr
  split
  · exact ⟨mInv_err hI, fun k hk => err_k (by omega)⟩
  · next h =>
    have h5 := hI.dp
    have e : σ 11 0 - 1 = nI (zN (σ 11 0) - 1) := by
      have h0 : zN (σ 11 0) ≠ 0 := fun q => h (by rw [h5.1, q]; rfl)
      obtain ⟨m, hm⟩ : ∃ m, zN (σ 11 0) = m + 1 := ⟨zN (σ 11 0) - 1, by omega⟩
      rw [h5.1, hm, nI_pred, zN_nI (by have := h5.2; omega)]
      rfl
    refine ⟨mInv_11 (mInv_of hI (fun k hk => clr_n (by omega))) ?_, fun k hk => ?_⟩
    · rw [e]; exact nn_nI (by have := h5.2; omega) (by decide)
    · show ms_u _ _ _ _ k = _
      rw [ms_u_n (by omega), clr_n (by omega)]
theorem inl_ok {a : Nat} {p : Int32} : ∀ (i : Nat) (τ : MS), mInv τ → a < zN (τ 0 0) → i ≤ 8 → (∀ j, j < 8 → τ 4 (8 * a + j) = 0) → mInv (inl τ a p i) ∧ (∀ k, ¬ (k = 4 ∨ k = 5 ∨ k = 6 ∨ k = 7) → inl τ a p i k = τ k) ∧ (∀ j, i ≤ j → j < 8 → inl τ a p i 4 (8 * a + j) = 0)
  | 0, τ, hI, _, _, h0 => ⟨hI, fun _ _ => rfl, fun j _ h => h0 j h⟩
  | i + 1, τ, hI, ha, hi, h0 => by
    obtain ⟨q1, q2, q3⟩ := inl_ok (a := a) (p := p) i τ hI ha (by omega) h0
    have hz := q3 i (Nat.le_refl _) (by omega)
    refine ⟨mInv_ins q1 (by rw [hz]; decide) (by rw [q2 0 (by decide)]; omega), fun k hk => ?_, fun j h1 h2 => ?_⟩
    · show ins (inl τ a p i) _ _ _ _ _ k = _
      rw [ins_n hk, q2 k hk]
    · show ins (inl τ a p i) _ _ _ _ _ 4 _ = _
      rw [ins_4]
      unfold upd
      rw [if_neg (by omega)]
      exact q3 j (by omega) h2
theorem alc_pre {σ : MS} (hI : mInv σ) (h : ¬ (σ 0 0 = 10 ∨ σ 8 0 = 60)) : zN (σ 0 0) < 10 ∧ zN (σ 8 0) < 60 := by
  have hnA := hI.nA
  have hnP := hI.nP
  constructor
  · rcases Nat.lt_or_ge (zN (σ 0 0)) 10 with q | q
    · exact q
    · exact absurd (Or.inl (by rw [hnA.1, show zN (σ 0 0) = 10 by have := hnA.2; omega]; rfl)) h
  · rcases Nat.lt_or_ge (zN (σ 8 0)) 60 with q | q
    · exact q
    · exact absurd (Or.inr (by rw [hnP.1, show zN (σ 8 0) = 60 by have := hnP.2; omega]; rfl)) h
theorem m18 {m : Int32} (h : 1 ≤ m ∧ m ≤ 8) : ∃ n, 1 ≤ n ∧ n ≤ 8 ∧ m = nI n := by
  obtain ⟨n, h1, rfl⟩ := nI_of2 (x := m) (M := 8) (n := 8) rfl (by rw [Int32.not_lt]; exact Int32.le_trans (by decide) h.1) h.2
  have h6 := h.1
  rw [show (1 : Int32) = nI 1 from rfl, nI_leI (by decide) (by omega)] at h6
  exact ⟨n, h6, h1, rfl⟩
/-- the state ahead of the first items -/
def alp (σ : MS) (m : Int32) : MS := nwP (ms_u (ms_u σ 0 0 (σ 0 0 + 1)) 1 (zN (σ 0 0)) m) (σ 0 0) (-1)
theorem mInv_alp {σ : MS} {n : Nat} (hI : mInv σ) (hA : zN (σ 0 0) < 10) (hP : zN (σ 8 0) < 60) (h1 : 1 ≤ n) (h8 : n ≤ 8) : mInv (alp σ (nI n)) := by
  have hnA := hI.nA
  obtain ⟨e1, e2⟩ := zN_s hnA (by decide)
  have hzn : zN (nI n) = n := zN_nI (by omega)
  have hb : mInv (ms_u (ms_u σ 0 0 (σ 0 0 + 1)) 1 (zN (σ 0 0)) (nI n)) := by
    have f0 : ms_u (ms_u σ 0 0 (σ 0 0 + 1)) 1 (zN (σ 0 0)) (nI n) 0 0 = σ 0 0 + 1 := rfl
    have f1 : ms_u (ms_u σ 0 0 (σ 0 0 + 1)) 1 (zN (σ 0 0)) (nI n) 1 = upd (σ 1) (zN (σ 0 0)) (nI n) := rfl
    unfold mInv
    rw [f0, f1, e2]
    refine ⟨by rw [e1]; exact nn_nI (by omega) (by decide), hI.nP, hI.dp, hI.ln, fun a ha => ?_, fun p hp => ?_, fun c hc => hI.sz hc, fun c hc1 hc => hI.s0 (by omega) hc⟩
    · unfold upd
      by_cases q : a = zN (σ 0 0)
      · rw [if_pos q]
        exact ⟨nn_nI h8 (by decide), by rw [hzn]; exact h1⟩
      · rw [if_neg q]
        exact hI.cl (by omega)
    · have := hI.ow (p := p) hp
      exact ⟨this.1, Nat.lt_succ_of_lt this.2⟩
  unfold alp
  have hx : σ 0 0 = nI (zN (σ 0 0)) := hnA.1
  have := mInv_nwP (a := zN (σ 0 0)) (b := -1) hb hP (by show _ < zN (σ 0 0 + 1); rw [e2]; omega)
  rw [← hx] at this
  exact this
theorem ok_alloc {σ : MS} {m : Int32} (hI : mInv σ) : mInv (s_alloc σ m).2 ∧ ∀ k, kScr k → (s_alloc σ m).2 k = σ k := by
  unfold s_alloc kScr
  split
  · next h =>
    split
    · exact ⟨mInv_err hI, fun k hk => err_k (by omega)⟩
    · next hf =>
      obtain ⟨hA, hP⟩ := alc_pre hI hf
      obtain ⟨n, h1, h8, rfl⟩ := m18 h
      have hzn : zN (nI n) = n := zN_nI (by omega)
      obtain ⟨e1, e2⟩ := zN_s hI.nA (by decide)
      obtain ⟨q1, q2, -⟩ := inl_ok (a := zN (σ 0 0)) (p := σ 8 0) n (alp σ (nI n)) (mInv_alp hI hA hP h1 h8) (by show _ < zN (σ 0 0 + 1); rw [e2]; omega) h8 (fun j hj => hI.s0 (c := 8 * zN (σ 0 0) + j) (by omega) (by omega))
      show mInv (alc σ (nI n)) ∧ _
      unfold alc
      rw [hzn]
      refine ⟨q1, fun k hk => ?_⟩
      show inl (alp σ (nI n)) _ _ _ k = _
      rw [q2 k (by omega)]
      unfold alp
      rw [nwP_n (by omega), ms_u_n (by omega), ms_u_n (by omega)]
  · exact ⟨mInv_err hI, fun k hk => err_k (by omega)⟩
