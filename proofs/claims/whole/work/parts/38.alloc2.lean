/-! performAllocate -/
section Alc2
variable {G : GG} {h0 h : Hp} {B m : Nat} {σ κ τ : MS} {a : Nat} {p x y : Int32}
theorem ins_nwP {c : Nat} {t q g : Int32} : ins (nwP τ x y) c 0 t q g = nwP (ins τ c 0 t q g) x y := by
  funext k
  by_cases h8 : k = 8 ∨ k = 9 ∨ k = 10
  · rw [ins_n (by omega)]
    rcases h8 with rfl | rfl | rfl
    · unfold nwP
      rw [ins_n (k := 8) (by decide), ms_u_k, ms_u_k, ms_u_n (by decide), ms_u_n (by decide), ms_u_n (by decide), ms_u_n (by decide), ins_n (by decide)]
    · rw [nwP_9, nwP_9, ins_n (k := 8) (by decide), ins_n (k := 9) (by decide)]
    · rw [nwP_10, nwP_10, ins_n (k := 8) (by decide), ins_n (k := 10) (by decide)]
  · rw [nwP_n h8]
    by_cases h4 : k = 4 ∨ k = 5 ∨ k = 6 ∨ k = 7
    · rcases h4 with rfl | rfl | rfl | rfl
      · rw [ins_4, ins_4, nwP_n (by decide)]
      · rw [ins_5, ins_5, nwP_n (by decide), nwP_n (by decide)]
      · rw [ins_6, ins_6, nwP_n (by decide), nwP_n (by decide)]
      · rw [ins_7, ins_7, nwP_n (by decide), nwP_n (by decide)]
    · rw [ins_n h4, ins_n h4, nwP_n h8]
theorem inl_nwP : ∀ i, inl (nwP τ x y) a p i = nwP (inl τ a p i) x y
  | 0 => rfl
  | i + 1 => by
    unfold inl
    rw [inl_nwP i, ins_nwP]
theorem insK_0 {c : Nat} (h : κ 7 (12 * c) = 0) : insK κ c 0 0 0 = κ := by
  funext k
  unfold insK
  split
  · next q =>
    subst q
    rw [Nat.add_zero, shf_0]
    have := u_e (κ 7) (12 * c)
    rw [h] at this
    exact this
  · rfl
/-- the first items come into the new cells -/
theorem PI_inl (hP : PI B τ κ) (ha : a + 1 = zN (τ 0 0)) (z4 : ∀ k, k < 8 → τ 4 (8 * a + k) = 0) (z5 : ∀ i, 96 * a ≤ i → i < 96 * a + 96 → τ 5 i = 0 ∧ τ 6 i = 0 ∧ κ 7 i = 0) : ∀ i, i ≤ 8 → PI B (inl τ a p i) κ ∧ (∀ k, ¬ (k = 4 ∨ k = 5 ∨ k = 6 ∨ k = 7) → inl τ a p i k = τ k) ∧ (∀ c, (c < 8 * a ∨ 8 * a + i ≤ c) → inl τ a p i 4 c = τ 4 c ∧ slc (inl τ a p i 5) c = slc (τ 5) c ∧ slc (inl τ a p i 6) c = slc (τ 6) c) ∧ (∀ k, k < i → inl τ a p i 4 (8 * a + k) = 1 ∧ slc (inl τ a p i 5) (8 * a + k) = upd (fun _ => 0) 0 p ∧ slc (inl τ a p i 6) (8 * a + k) = upd (fun _ => 0) 0 0)
  | 0, _ => ⟨hP, fun _ _ => rfl, fun _ _ => ⟨rfl, rfl, rfl⟩, fun k hk => absurd hk (by omega)⟩
  | i + 1, hi => by
    obtain ⟨P, e, eo, en⟩ := PI_inl hP ha z4 z5 i (by omega)
    have hA := P.inv.nA.2
    rw [e 0 (by decide)] at hA
    have o := eo (8 * a + i) (by omega)
    have o4 : inl τ a p i 4 (8 * a + i) = 0 := by rw [o.1]; exact z4 i (by omega)
    have y4 : zN (inl τ a p i 4 (8 * a + i)) = 0 := by rw [o4]; rfl
    have k0 : insK κ (8 * a + i) 0 (zN (inl τ a p i 4 (8 * a + i))) 0 = κ := by
      rw [y4]
      exact insK_0 (z5 _ (by omega) (by omega)).2.2
    have zs : ∀ f : Nat → Int32, (∀ j, 96 * a ≤ j → j < 96 * a + 96 → f j = 0) → slc f (8 * a + i) = fun _ => 0 := fun f hf => by
      funext k
      unfold slc
      split
      · exact hf _ (by omega) (by omega)
      · rfl
    have P1 := PI_ins (c := 8 * a + i) (p := 0) (t := p) (q := 0) (g := 0) (pr := 0) P (by rw [e 0 (by decide)]; omega) (by omega) (Nat.zero_le _) (Or.inl rfl) (Or.inl ⟨rfl, fun l hl z => by
      have := (P.ser.1 l hl).2
      rw [z] at this
      exact absurd this (by decide)⟩) nn_0
    rw [k0] at P1
    have s5 : slc (inl τ a p (i + 1) 5) (8 * a + i) = upd (fun _ => 0) 0 p := by
      show slc (ins (inl τ a p i) (8 * a + i) 0 p 0 0 5) (8 * a + i) = _
      rw [ins_5, y4, slc_ins (by decide) (Nat.le_refl _), o.2.1, zs _ (fun j h1 h2 => (z5 j h1 h2).1)]
      unfold isf
      rw [shf_0]
    have s6 : slc (inl τ a p (i + 1) 6) (8 * a + i) = upd (fun _ => 0) 0 0 := by
      show slc (ins (inl τ a p i) (8 * a + i) 0 p 0 0 6) (8 * a + i) = _
      rw [ins_6, y4, slc_ins (by decide) (Nat.le_refl _), o.2.2, zs _ (fun j h1 h2 => (z5 j h1 h2).2.1)]
      unfold isf
      rw [shf_0]
    have far : ∀ c, c ≠ 8 * a + i → inl τ a p (i + 1) 4 c = inl τ a p i 4 c ∧ slc (inl τ a p (i + 1) 5) c = slc (inl τ a p i 5) c ∧ slc (inl τ a p (i + 1) 6) c = slc (inl τ a p i 6) c := fun c hc => by
      show ins (inl τ a p i) (8 * a + i) 0 p 0 0 4 c = _ ∧ slc (ins (inl τ a p i) (8 * a + i) 0 p 0 0 5) c = _ ∧ slc (ins (inl τ a p i) (8 * a + i) 0 p 0 0 6) c = _
      refine ⟨?_, slc_eq (fun k hk => ins_far (by decide) (by omega) (Nat.zero_le _) hc hk), slc_eq (fun k hk => ins_far (by decide) (by omega) (Nat.zero_le _) hc hk)⟩
      rw [ins_4]
      exact if_neg hc
    refine ⟨P1, fun k hk => ?_, fun c hc => ?_, fun k hk => ?_⟩
    · show ins (inl τ a p i) (8 * a + i) 0 p 0 0 k = _
      rw [ins_n hk, e k hk]
    · obtain ⟨f1, f2, f3⟩ := far c (by omega)
      obtain ⟨g1, g2, g3⟩ := eo c (by omega)
      exact ⟨f1.trans g1, f2.trans g2, f3.trans g3⟩
    · by_cases q : k = i
      · subst q
        refine ⟨?_, s5, s6⟩
        show ins (inl τ a p k) (8 * a + k) 0 p 0 0 4 (8 * a + k) = 1
        rw [ins_4, o4]
        exact if_pos rfl
      · obtain ⟨f1, f2, f3⟩ := far (8 * a + k) (by omega)
        obtain ⟨g1, g2, g3⟩ := en k (by omega)
        exact ⟨f1.trans g1, f2.trans g2, f3.trans g3⟩
end Alc2
