/-! what the class keeps stays as it must be -/
def insK (κ : MS) (c p n : Nat) (g : Int32) : MS := fun k => if k = 7 then upd (shf (κ 7) (12 * c + p) (12 * c + n)) (12 * c + p) g else κ k
theorem insK_n {κ : MS} {c p n k : Nat} {g : Int32} (h : k ≠ 7) : insK κ c p n g k = κ k := if_neg h
theorem insK_7 {κ : MS} {c p n : Nat} {g : Int32} : insK κ c p n g 7 = upd (shf (κ 7) (12 * c + p) (12 * c + n)) (12 * c + p) g := if_pos rfl
section PIk
variable {B : Nat} {σ κ : MS} {c p : Nat} {t q g : Int32}
theorem ins_5 : ins σ c p t q g 5 = upd (shf (σ 5) (12 * c + p) (12 * c + zN (σ 4 c))) (12 * c + p) t := by
  unfold ins
  rw [ms_u_n (by decide), ms_u_n (by decide), ms_u_n (by decide), ms_u_k]
  rfl
theorem ins_6 : ins σ c p t q g 6 = upd (shf (σ 6) (12 * c + p) (12 * c + zN (σ 4 c))) (12 * c + p) q := by
  unfold ins
  rw [ms_u_n (by decide), ms_u_n (by decide), ms_u_k, ms_u_n (by decide)]
  rfl
theorem ins_7 : ins σ c p t q g 7 = upd (shf (σ 7) (12 * c + p) (12 * c + zN (σ 4 c))) (12 * c + p) g := by
  unfold ins
  rw [ms_u_n (by decide), ms_u_k, ms_u_n (by decide), ms_u_n (by decide)]
  rfl
/-- what holds of all entries holds after a shift -/
theorem sh_all {A : Int32 → Prop} {f : Nat → Int32} {lo hi j N : Nat} {x : Int32} (hN : hi < N) (h : ∀ i, i < N → A (f i)) (hx : A x) : ∀ i, i < N → A (upd (shf f lo hi) j x i) := by
  intro i hi'
  unfold upd shf
  split
  · exact hx
  · split
    · exact h _ (by omega)
    · exact h _ hi'
theorem sh_all2 {A : Int32 → Int32 → Prop} {f f' : Nat → Int32} {lo hi j N : Nat} {x x' : Int32} (hN : hi < N) (h : ∀ i, i < N → A (f i) (f' i)) (hx : A x x') : ∀ i, i < N → A (upd (shf f lo hi) j x i) (upd (shf f' lo hi) j x' i) := by
  intro i hi'
  unfold upd shf
  split
  · exact hx
  · split
    · exact h _ (by omega)
    · exact h _ hi'
theorem sh_hi {f : Nat → Int32} {lo hi j i : Nat} {x : Int32} (hi' : hi < i) (hj : j < i) : upd (shf f lo hi) j x i = f i := by
  unfold upd shf
  rw [if_neg (by omega), if_neg (by omega)]
theorem PI_ins {pr : Int32} (P : PI B σ κ) (hc : c < 8 * zN (σ 0 0)) (hn : zN (σ 4 c) < 12) (hp : p ≤ zN (σ 4 c)) (hq : pm4 q) (hg : gOK (κ 23) (zN (σ 11 0)) g pr) (hr : nn pr (zN (κ 16 0))) : PI B (ins σ c p t q g) (insK κ c p (zN (σ 4 c)) pr) := by
  have e : ∀ k, ¬ (k = 4 ∨ k = 5 ∨ k = 6 ∨ k = 7) → ins σ c p t q g k = σ k := fun k hk => ins_n hk
  have hA := P.inv.nA.2
  refine ⟨mInv_ins P.inv hn hc, ?_, ?_, ?_, ?_, ?_, ?_, ?_, ?_, ?_, ?_⟩
  · rw [e 3 (by decide)]; exact P.val
  · rw [e 2 (by decide)]; exact P.frd
  · rw [ins_6]; exact sh_all (A := pm4) (by omega) P.prm hq
  · rw [e 2 (by decide), e 0 (by decide)]; exact P.fr2
  · rw [e 3 (by decide), e 0 (by decide)]; exact P.fr3
  · rw [e 0 (by decide), ins_5, ins_6, ins_7, insK_7]
    intro i h1 h2
    rw [sh_hi (by omega) (by omega), sh_hi (by omega) (by omega), sh_hi (by omega) (by omega), sh_hi (by omega) (by omega)]
    exact P.fr5 i h1 h2
  · rw [insK_n (by decide)]; exact P.lat
  · rw [insK_n (by decide), insK_n (by decide), e 11 (by decide)]; exact P.ser
  · rw [insK_n (k := 16) (by decide), insK_7]; exact sh_all (A := fun y => nn y (zN (κ 16 0))) (by omega) P.pro hr
  · rw [insK_n (by decide), insK_7, e 11 (by decide), ins_7]; exact sh_all2 (A := fun a b => gOK (κ 23) (zN (σ 11 0)) a b) (by omega) P.grd hg
theorem PI_dis {lo hi : Nat} (P : PI B σ κ) (h : hi ≤ 96 * zN (σ 0 0)) : PI B (dis σ lo hi) κ := by
  have e : ∀ k, k ≠ 6 → dis σ lo hi k = σ k := fun k hk => dis_n hk
  refine ⟨mInv_of P.inv (fun k hk => e k (by omega)), ?_, ?_, ?_, ?_, ?_, ?_, P.lat, ?_, P.pro, ?_⟩
  · rw [e 3 (by decide)]; exact P.val
  · rw [e 2 (by decide)]; exact P.frd
  · intro i hi'
    unfold dis
    split
    · exact Or.inr (Or.inr (Or.inr rfl))
    · exact P.prm i hi'
  · rw [e 2 (by decide), e 0 (by decide)]; exact P.fr2
  · rw [e 3 (by decide), e 0 (by decide)]; exact P.fr3
  · rw [e 5 (by decide), e 7 (by decide), e 0 (by decide)]
    intro i h1 h2
    rw [dis_at (by omega)]
    exact P.fr5 i h1 h2
  · rw [e 11 (by decide)]; exact P.ser
  · rw [e 11 (by decide), e 7 (by decide)]; exact P.grd
theorem PI_4 {x : Int32} (P : PI B σ κ) (hx : nn x 12) (hc : c < 8 * zN (σ 0 0)) : PI B (ms_u σ 4 c x) κ := by
  have e : ∀ k, k ≠ 4 → ms_u σ 4 c x k = σ k := fun k hk => ms_u_n hk
  refine ⟨mInv_4 P.inv hx hc, ?_, ?_, ?_, ?_, ?_, ?_, P.lat, ?_, P.pro, ?_⟩
  · rw [e 3 (by decide)]; exact P.val
  · rw [e 2 (by decide)]; exact P.frd
  · rw [e 6 (by decide)]; exact P.prm
  · rw [e 2 (by decide), e 0 (by decide)]; exact P.fr2
  · rw [e 3 (by decide), e 0 (by decide)]; exact P.fr3
  · rw [e 5 (by decide), e 6 (by decide), e 7 (by decide), e 0 (by decide)]; exact P.fr5
  · rw [e 11 (by decide)]; exact P.ser
  · rw [e 11 (by decide), e 7 (by decide)]; exact P.grd
theorem PI_3 {x : Int32} (P : PI B σ κ) (hx : 0 ≤ x) (hc : c < 8 * zN (σ 0 0)) : PI B (ms_u σ 3 c x) κ := by
  have e : ∀ k, k ≠ 3 → ms_u σ 3 c x k = σ k := fun k hk => ms_u_n hk
  refine ⟨mInv_u P.inv (by decide), ?_, ?_, ?_, ?_, ?_, ?_, P.lat, ?_, P.pro, ?_⟩
  · rw [ms_u_k]
    intro i hi
    unfold upd
    split
    · exact hx
    · exact P.val i hi
  · rw [e 2 (by decide)]; exact P.frd
  · rw [e 6 (by decide)]; exact P.prm
  · rw [e 2 (by decide), e 0 (by decide)]; exact P.fr2
  · rw [ms_u_k, e 0 (by decide)]
    intro i h1 h2
    unfold upd
    rw [if_neg (by omega)]
    exact P.fr3 i h1 h2
  · rw [e 5 (by decide), e 6 (by decide), e 7 (by decide), e 0 (by decide)]; exact P.fr5
  · rw [e 11 (by decide)]; exact P.ser
  · rw [e 11 (by decide), e 7 (by decide)]; exact P.grd
theorem PI_2 {a : Nat} (P : PI B σ κ) (ha : a < zN (σ 0 0)) : PI B (ms_u σ 2 a 1) κ := by
  have e : ∀ k, k ≠ 2 → ms_u σ 2 a 1 k = σ k := fun k hk => ms_u_n hk
  refine ⟨mInv_u P.inv (by decide), ?_, ?_, ?_, ?_, ?_, ?_, P.lat, ?_, P.pro, ?_⟩
  · rw [e 3 (by decide)]; exact P.val
  · rw [ms_u_k]
    intro i hi
    unfold upd
    split
    · exact Or.inr rfl
    · exact P.frd i hi
  · rw [e 6 (by decide)]; exact P.prm
  · rw [ms_u_k, e 0 (by decide)]
    intro i h1 h2
    unfold upd
    rw [if_neg (by omega)]
    exact P.fr2 i h1 h2
  · rw [e 3 (by decide), e 0 (by decide)]; exact P.fr3
  · rw [e 5 (by decide), e 6 (by decide), e 7 (by decide), e 0 (by decide)]; exact P.fr5
  · rw [e 11 (by decide)]; exact P.ser
  · rw [e 11 (by decide), e 7 (by decide)]; exact P.grd
/-- a call more: its serial number is new -/
def entK (κ : MS) (d : Nat) : MS := ms_u (ms_u κ 23 d (κ 16 0 + 1)) 16 0 (κ 16 0 + 1)
theorem PI_ent (P : PI B σ κ) (hB : B < 1000000) (hd : zN (σ 11 0) < 5) : PI (B + 1) (ms_u σ 11 0 (σ 11 0 + 1)) (entK κ (zN (σ 11 0))) := by
  have e : ∀ k, k ≠ 11 → ms_u σ 11 0 (σ 11 0 + 1) k = σ k := fun k hk => ms_u_n hk
  have e11 : zN (ms_u σ 11 0 (σ 11 0 + 1) 11 0) = zN (σ 11 0) + 1 := by
    rw [ms_u_k]
    exact (zN_s P.inv.dp (by decide)).2
  have hL := P.lat.2
  have eL : κ 16 0 + 1 = nI (zN (κ 16 0) + 1) := by
    have := P.lat.1
    rw [this, nI_1, ← this]
  have k7 : entK κ (zN (σ 11 0)) 7 = κ 7 := by unfold entK; rw [ms_u_n (by decide), ms_u_n (by decide)]
  have k16 : entK κ (zN (σ 11 0)) 16 0 = nI (zN (κ 16 0) + 1) := by unfold entK; rw [ms_u_k, eL]; exact if_pos rfl
  have z16 : zN (entK κ (zN (σ 11 0)) 16 0) = zN (κ 16 0) + 1 := by rw [k16]; exact zN_nI (by omega)
  have k23 : entK κ (zN (σ 11 0)) 23 = upd (κ 23) (zN (σ 11 0)) (nI (zN (κ 16 0) + 1)) := by unfold entK; rw [ms_u_n (by decide), ms_u_k, eL]
  refine ⟨mInv_11 P.inv ?_, ?_, ?_, ?_, ?_, ?_, ?_, ?_, ?_, ?_, ?_⟩
  · rw [(zN_s P.inv.dp (by decide)).1]; exact nn_nI (by omega) (by decide)
  · rw [e 3 (by decide)]; exact P.val
  · rw [e 2 (by decide)]; exact P.frd
  · rw [e 6 (by decide)]; exact P.prm
  · rw [e 2 (by decide), e 0 (by decide)]; exact P.fr2
  · rw [e 3 (by decide), e 0 (by decide)]; exact P.fr3
  · rw [e 5 (by decide), e 6 (by decide), e 7 (by decide), e 0 (by decide), k7]; exact P.fr5
  · rw [k16]; exact nn_nI (by omega) (by omega)
  · rw [e11, z16, k23]
    have s0 : ∀ l, l < zN (σ 11 0) → upd (κ 23) (zN (σ 11 0)) (nI (zN (κ 16 0) + 1)) l = κ 23 l := fun l hl => if_neg (by omega)
    have s1 : upd (κ 23) (zN (σ 11 0)) (nI (zN (κ 16 0) + 1)) (zN (σ 11 0)) = nI (zN (κ 16 0) + 1) := if_pos rfl
    refine ⟨fun l hl => ?_, fun l l' h1 h2 => ?_⟩
    · by_cases q : l < zN (σ 11 0)
      · rw [s0 l q]
        have := (P.ser.1 l q)
        exact ⟨⟨this.1.1, by have := this.1.2; omega⟩, this.2⟩
      · obtain rfl : l = zN (σ 11 0) := by omega
        rw [s1, zN_nI (by omega)]
        exact ⟨nn_nI (Nat.le_refl _) (by omega), by omega⟩
    · rw [s0 l (by omega)]
      by_cases q : l' < zN (σ 11 0)
      · rw [s0 l' q]
        exact P.ser.2 l l' h1 q
      · obtain rfl : l' = zN (σ 11 0) := by omega
        rw [s1, zN_nI (by omega)]
        have := (P.ser.1 l h1).1.2
        omega
  · rw [z16, k7]
    intro i hi
    exact ⟨(P.pro i hi).1, by have := (P.pro i hi).2; omega⟩
  · rw [e11, k7, k23, e 7 (by decide)]
    intro i hi
    rcases P.grd i hi with ⟨a1, a2⟩ | ⟨l, a1, a2, a3⟩
    · refine Or.inl ⟨a1, fun l hl => ?_⟩
      unfold upd
      split
      · intro z
        have h1 := (P.pro i hi).2
        rw [← z, zN_nI (by omega)] at h1
        omega
      · exact a2 l (by omega)
    · refine Or.inr ⟨l, by omega, a2, ?_⟩
      unfold upd
      rw [if_neg (by omega)]
      exact a3
/-- a call less -/
theorem PI_lea (P : PI B σ κ) (hd : zN (σ 11 0) ≠ 0) : PI B (ms_u (clr σ 960) 11 0 (σ 11 0 - 1)) κ := by
  have h5 := P.inv.dp.2
  obtain ⟨m, hm⟩ : ∃ m, zN (σ 11 0) = m + 1 := ⟨zN (σ 11 0) - 1, by omega⟩
  have e : ∀ k, k ≠ 11 → k ≠ 7 → ms_u (clr σ 960) 11 0 (σ 11 0 - 1) k = σ k := fun k hk hk' => by rw [ms_u_n hk, clr_n hk']
  have e7 : ms_u (clr σ 960) 11 0 (σ 11 0 - 1) 7 = clr σ 960 7 := ms_u_n (by decide)
  have ed : σ 11 0 = nI (m + 1) := by rw [← hm]; exact P.inv.dp.1
  have e11 : ms_u (clr σ 960) 11 0 (σ 11 0 - 1) 11 0 = nI m := by rw [ms_u_k, ed, nI_pred]; exact if_pos rfl
  have z11 : zN (ms_u (clr σ 960) 11 0 (σ 11 0 - 1) 11 0) = m := by rw [e11]; exact zN_nI (by omega)
  refine ⟨mInv_11 (mInv_of P.inv (fun k hk => clr_n (by omega))) ?_, ?_, ?_, ?_, ?_, ?_, ?_, P.lat, ?_, P.pro, ?_⟩
  · rw [ed, nI_pred]; exact nn_nI (by omega) (by decide)
  · rw [e 3 (by decide) (by decide)]; exact P.val
  · rw [e 2 (by decide) (by decide)]; exact P.frd
  · rw [e 6 (by decide) (by decide)]; exact P.prm
  · rw [e 2 (by decide) (by decide), e 0 (by decide) (by decide)]; exact P.fr2
  · rw [e 3 (by decide) (by decide), e 0 (by decide) (by decide)]; exact P.fr3
  · rw [e 5 (by decide) (by decide), e 6 (by decide) (by decide), e7, e 0 (by decide) (by decide)]
    intro i h1 h2
    obtain ⟨a1, a2, a3, a4⟩ := P.fr5 i h1 h2
    refine ⟨a1, a2, ?_, a4⟩
    unfold clr
    split
    · rfl
    · exact a3
  · rw [z11]
    exact ⟨fun l hl => P.ser.1 l (by omega), fun l l' h1 h2 => P.ser.2 l l' h1 (by omega)⟩
  · rw [z11, e7]
    intro i hi
    rcases P.grd i hi with ⟨a1, a2⟩ | ⟨l, a1, a2, a3⟩
    · refine Or.inl ⟨?_, fun l hl => a2 l (by omega)⟩
      unfold clr
      split
      · rfl
      · exact a1
    · by_cases q : l = m
      · subst q
        refine Or.inl ⟨?_, fun l' hl' z => ?_⟩
        · unfold clr
          rw [if_pos ⟨rfl, hi, by rw [a2, ed]⟩]
        · have := P.ser.2 l' l hl' a1
          rw [z, a3] at this
          omega
      · refine Or.inr ⟨l, by omega, ?_, a3⟩
        unfold clr
        rw [if_neg, a2]
        rintro ⟨-, -, z⟩
        rw [a2, ed] at z
        have := congrArg zN z
        rw [zN_nI (by omega), zN_nI (by omega)] at this
        omega
/-! slices of what changed -/
theorem slc_ins {f : Nat → Int32} {n : Nat} {x : Int32} (hn : n < 12) (hp : p ≤ n) : slc (upd (shf f (12 * c + p) (12 * c + n)) (12 * c + p) x) c = isf (slc f c) p n x := by
  funext k
  unfold slc isf upd shf
  by_cases hk : k < 12
  · rw [if_pos hk]
    by_cases h1 : k = p
    · rw [if_pos (by omega), if_pos h1]
    · rw [if_neg (by omega), if_neg h1]
      by_cases h2 : p < k ∧ k ≤ n
      · rw [if_pos (by omega), if_pos h2]
        show f (12 * c + k - 1) = if k - 1 < 12 then f (12 * c + (k - 1)) else 0
        rw [if_pos (by omega), show 12 * c + k - 1 = 12 * c + (k - 1) by omega]
      · rw [if_neg (by omega), if_neg h2]
        show _ = if k < 12 then _ else _
        rw [if_pos hk]
  · rw [if_neg hk, if_neg (by omega), if_neg (by omega)]
    show _ = if k < 12 then _ else _
    rw [if_neg hk]
theorem slc_dis {lo n : Nat} (hn : n ≤ 12) : slc (dis σ (12 * c + lo) (12 * c + n) 6) c = dsf (slc (σ 6) c) lo n := by
  funext k
  unfold slc dsf dis
  by_cases hk : k < 12
  · rw [if_pos hk]
    have e : (6 = 6 ∧ 12 * c + lo ≤ 12 * c + k ∧ 12 * c + k < 12 * c + n ∧ σ 6 (12 * c + k) = 0) ↔ (lo ≤ k ∧ k < n ∧ (if k < 12 then σ 6 (12 * c + k) else 0) = 0) := by
      rw [if_pos hk]
      constructor
      · rintro ⟨-, a, b, d⟩; exact ⟨by omega, by omega, d⟩
      · rintro ⟨a, b, d⟩; exact ⟨rfl, by omega, by omega, d⟩
    exact ite_congr (propext e) (fun _ => rfl) (fun _ => (if_pos hk).symm)
  · rw [if_neg hk, if_neg (by omega)]
    exact (if_neg hk).symm
theorem slc_eq {f g : Nat → Int32} (h : ∀ k, k < 12 → f (12 * c + k) = g (12 * c + k)) : slc f c = slc g c := by
  funext k
  unfold slc
  split
  · next q => exact h k q
  · rfl
end PIk
