/-! an allocation more: the class's places -/
def adA (β : AB) (a o s : Nat) (γ : Nat → Nat → Nat) : AB := fun t x r => if t = 2 ∧ x = a then o else if t = 3 ∧ x = a then s else if t = 4 ∧ 8 * a ≤ x then γ (x - 8 * a) r else β t x r
section AddA
variable {G : GG} {h0 h h1 : Hp} {β : AB} {υ υ' : MS} {a o s n : Nat} {γ : Nat → Nat → Nat} {tg : Int32}
theorem adA_2 {r : Nat} : adA β a o s γ 2 a r = o := if_pos ⟨rfl, rfl⟩
theorem adA_3 {r : Nat} : adA β a o s γ 3 a r = s := by
  unfold adA
  rw [if_neg (fun z => absurd z.1 (by decide)), if_pos ⟨rfl, rfl⟩]
theorem adA_4 {k r : Nat} : adA β a o s γ 4 (8 * a + k) r = γ k r := by
  unfold adA
  rw [if_neg (fun z => absurd z.1 (by decide)), if_neg (fun z => absurd z.1 (by decide)), if_pos ⟨rfl, by omega⟩, show 8 * a + k - 8 * a = k by omega]
theorem adA_n {t x r : Nat} (ht : t ≠ 2 ∧ t ≠ 3 ∧ t ≠ 4) : adA β a o s γ t x r = β t x r := by
  unfold adA
  rw [if_neg (fun z => ht.1 z.1), if_neg (fun z => ht.2.1 z.1), if_neg (fun z => ht.2.2 z.1)]
theorem adA_o {t x r : Nat} (h2 : x < a) : adA β a o s γ t x r = β t x r ∨ t = 4 := by
  unfold adA
  by_cases h4 : t = 4
  · exact Or.inr h4
  · rw [if_neg (fun z => absurd z.2 (by omega)), if_neg (fun z => absurd z.2 (by omega)), if_neg (fun z => h4 z.1)]
    exact Or.inl rfl
theorem adA_c {x r : Nat} (h2 : x < 8 * a) : adA β a o s γ 4 x r = β 4 x r := by
  unfold adA
  rw [if_neg (fun z => absurd z.1 (by decide)), if_neg (fun z => absurd z.1 (by decide)), if_neg (fun z => absurd z.2 (by omega))]
theorem adA_x {t x r : Nat} (ht : t ≠ 4) (h2 : x < a) : adA β a o s γ t x r = β t x r := (adA_o h2).resolve_right ht
theorem aA_lq (hn : zN (υ 0 0) = a) (hn' : zN (υ' 0 0) = a + 1) (e8 : υ' 8 0 = υ 8 0) (e1 : υ' 1 = upd (υ 1) a (nI n)) (hz : zN (nI n) = n) : ∀ t x r, lvI υ' t x r → lvI υ t x r ∨ (t = 2 ∧ x = a ∧ r = 0) ∨ (t = 3 ∧ x = a ∧ r = 0) ∨ (t = 4 ∧ ∃ k, k < n ∧ x = 8 * a + k ∧ r < 4) := by
  intro t x r z
  match t, z with
  | 0, z => exact Or.inl ⟨z.1, z.2⟩
  | 1, z => exact Or.inl ⟨by have := z.1; rw [e8] at this; exact this, z.2⟩
  | 2, z =>
    have z1 : x < zN (υ' 0 0) := z.1
    by_cases w : x = a
    · exact Or.inr (Or.inl ⟨rfl, w, z.2⟩)
    · exact Or.inl ⟨by omega, z.2⟩
  | 3, z =>
    have z1 : x < zN (υ' 0 0) := z.1
    by_cases w : x = a
    · exact Or.inr (Or.inr (Or.inl ⟨rfl, w, z.2⟩))
    · exact Or.inl ⟨by omega, z.2⟩
  | 4, z =>
    obtain ⟨z0, a', i, z1, z2, z3, z4⟩ := z
    rw [hn'] at z3
    rw [e1] at z4
    by_cases w : a' = a
    · subst w
      unfold upd at z4
      rw [if_pos rfl, hz] at z4
      exact Or.inr (Or.inr (Or.inr ⟨rfl, i, z4, z1, z0⟩))
    · unfold upd at z4
      rw [if_neg w] at z4
      exact Or.inl ⟨z0, a', i, z1, z2, by omega, z4⟩
  | t + 5, z => exact absurd z id
theorem aA_ql (hn : zN (υ 0 0) = a) (hn' : zN (υ' 0 0) = a + 1) (e8 : υ' 8 0 = υ 8 0) (e1 : υ' 1 = upd (υ 1) a (nI n)) : ∀ t x r, lvI υ t x r → lvI υ' t x r := by
  intro t x r z
  match t, z with
  | 0, z => exact ⟨z.1, z.2⟩
  | 1, z => exact ⟨by rw [e8]; exact z.1, z.2⟩
  | 2, z =>
    have z1 : x < zN (υ 0 0) := z.1
    exact ⟨by omega, z.2⟩
  | 3, z =>
    have z1 : x < zN (υ 0 0) := z.1
    exact ⟨by omega, z.2⟩
  | 4, z =>
    obtain ⟨z0, a', i, z1, z2, z3, z4⟩ := z
    refine ⟨z0, a', i, z1, z2, by omega, ?_⟩
    rw [e1]
    unfold upd
    rw [if_neg (by omega)]
    exact z4
  | t + 5, z => exact absurd z id
theorem aA_old (hn : zN (υ 0 0) = a) : ∀ t x r, lvI υ t x r → adA β a o s γ t x r = β t x r := by
  intro t x r z
  match t, z with
  | 0, z => exact adA_n (by decide)
  | 1, z => exact adA_n (by decide)
  | 2, z =>
    have z1 : x < zN (υ 0 0) := z.1
    exact adA_x (by decide) (by omega)
  | 3, z =>
    have z1 : x < zN (υ 0 0) := z.1
    exact adA_x (by decide) (by omega)
  | 4, z =>
    obtain ⟨z0, a', i, z1, z2, z3, z4⟩ := z
    exact adA_c (by omega)
  | t + 5, z => exact absurd z id
theorem Rep.addA (R : Rep G h0 β υ h) (hn : zN (υ 0 0) = a) (hn' : zN (υ' 0 0) = a + 1) (h8 : n ≤ 8) (e : ∀ k, ¬ (k = 0 ∨ k = 1 ∨ k = 4 ∨ k = 5 ∨ k = 6 ∨ k = 7) → υ' k = υ k) (e1 : υ' 1 = upd (υ 1) a (nI n)) (e2 : υ 2 a = 0) (e3 : ∀ k, k < 8 → υ 3 (8 * a + k) = 0) (eo : ∀ c, c < 8 * a → υ' 4 c = υ 4 c ∧ slc (υ' 5) c = slc (υ 5) c ∧ slc (υ' 6) c = slc (υ 6) c ∧ slc (υ' 7) c = slc (υ 7) c) (en : ∀ k, k < n → υ' 4 (8 * a + k) = 1 ∧ slc (υ' 5) (8 * a + k) = upd (fun _ => 0) 0 tg ∧ slc (υ' 6) (8 * a + k) = upd (fun _ => 0) 0 0 ∧ slc (υ' 7) (8 * a + k) = upd (fun _ => 0) 0 0) (ow : ∀ j, j < zN (υ 8 0) → zN (υ 9 j) < a) (cl : ∀ x, x < a → zN (υ 1 x) ≤ 8) (ho : h o = none) (A : AI G (bs_set h o (.inr (0, [.int 0, .null, .int 0]))) o s (nI a) tg n n γ h1) : Rep G h0 (adA β a o s γ) υ' (bs_set (bs_set h1 (β 0 1 0) (rRow G 2 10 (rfs (a + 1) (fun x => adA β a o s γ 2 x 0)))) (β 0 0 0) (.inr (5, [.ref (β 0 1 0), .int (υ' 0 0), .ref (β 0 2 0), .int (υ 8 0), .ref (β 0 3 0), .ref (β 0 5 0), .ref (β 0 9 0), .int (υ 12 0), .int (υ 13 0), .int (υ 14 0)]))) := by
  have hz : zN (nI n) = n := zN_nI (by omega)
  have e8 : υ' 8 0 = υ 8 0 := by rw [e 8 (by decide)]
  have lq := aA_lq hn hn' e8 e1 hz
  have ql := aA_ql hn hn' e8 e1
  have old := aA_old (β := β) (o := o) (s := s) (γ := γ) hn
  obtain ⟨a1, a2, a3, a4, a5, a6, a7⟩ := A
  rw [bs_set_ne a1] at a2
  have gn : ∀ k r, k < n → r < 4 → h (γ k r) = none := fun k r hk hr => by
    have := (a5 k r hk hr).1
    rw [bs_set_ne (a5 k r hk hr).2.1] at this
    exact this
  -- an address of the class's is none of the new ones
  have nw : ∀ t x r, lvI υ t x r → β t x r ≠ o ∧ β t x r ≠ s ∧ ∀ k r', k < n → r' < 4 → γ k r' ≠ β t x r := fun t x r z => ⟨R.some z ho, R.some z a2, fun k r' hk hr w => R.some z (gn k r' hk hr) w.symm⟩
  have same : ∀ t x r, lvI υ t x r → h1 (β t x r) = h (β t x r) := fun t x r z => by
    obtain ⟨n1, n2, n3⟩ := nw t x r z
    rw [a7 _ n1 n2 n3, bs_set_ne n1]
  have n0 := nw 0 0 0 (lv0 rfl)
  have n1 := nw 0 1 0 (lv0 rfl)
  have n10 : β 0 1 0 ≠ β 0 0 0 := R.ne (lv0 rfl) (lv0 rfl) (by omega)
  refine ⟨fun t x r z => ?_, fun t x r t' x' r' z z' w => ?_, fun t x r z => ?_, fun b z => ?_⟩
  · rcases lq t x r z with z0 | ⟨rfl, rfl, rfl⟩ | ⟨rfl, rfl, rfl⟩ | ⟨rfl, k, hk, rfl, hr⟩
    · rw [old t x r z0]
      match t, z0 with
      | 0, z0 =>
        have hx : x < 10 := z0.1
        obtain rfl : r = 0 := z0.2
        by_cases x0 : x = 0
        · subst x0
          rw [bs_set_self]
          simp only [cont, cob, adA_n (show 0 ≠ 2 ∧ 0 ≠ 3 ∧ 0 ≠ 4 by decide), e 8 (by decide), e 12 (by decide), e 13 (by decide), e 14 (by decide)]
        · by_cases x1 : x = 1
          · subst x1
            rw [bs_set_ne n10, bs_set_self]
            simp only [cont, cob, hn']
          · rw [bs_set_ne (R.ne z0 (lv0 rfl) (by omega)), bs_set_ne (R.ne z0 (lv0 rfl) (by omega)), same 0 x 0 z0, R.1 0 x 0 z0]
            have : x = 2 ∨ x = 3 ∨ x = 4 ∨ x = 5 ∨ x = 6 ∨ x = 7 ∨ x = 8 ∨ x = 9 := by omega
            rcases this with rfl | rfl | rfl | rfl | rfl | rfl | rfl | rfl <;> simp only [cont, cob, adA_n (show 0 ≠ 2 ∧ 0 ≠ 3 ∧ 0 ≠ 4 by decide), adA_n (show 1 ≠ 2 ∧ 1 ≠ 3 ∧ 1 ≠ 4 by decide), e 8 (by decide), e 11 (by decide), e 15 (by decide), e 16 (by decide), e 17 (by decide), e 18 (by decide), e 19 (by decide), e 20 (by decide), e 21 (by decide), e 22 (by decide), e 23 (by decide)]
      | 1, z0 =>
        have z1 : x < zN (υ 8 0) := z0.1
        rw [bs_set_ne (R.ne z0 (lv0 rfl) (by omega)), bs_set_ne (R.ne z0 (lv0 rfl) (by omega)), same 1 x r z0, R.1 1 x r z0]
        simp only [cont, e 9 (by decide), e 10 (by decide)]
        rw [adA_x (by decide) (ow x z1)]
      | 2, z0 =>
        have z1 : x < zN (υ 0 0) := z0.1
        rw [bs_set_ne (R.ne z0 (lv0 rfl) (by omega)), bs_set_ne (R.ne z0 (lv0 rfl) (by omega)), same 2 x r z0, R.1 2 x r z0]
        simp only [cont, e 2 (by decide)]
        rw [adA_x (by decide) (by omega)]
      | 3, z0 =>
        have z1 : x < zN (υ 0 0) := z0.1
        rw [bs_set_ne (R.ne z0 (lv0 rfl) (by omega)), bs_set_ne (R.ne z0 (lv0 rfl) (by omega)), same 3 x r z0, R.1 3 x r z0]
        have ex : υ' 1 x = υ 1 x := by
          rw [e1]
          exact if_neg (by omega)
        simp only [cont, ex]
        have ef : rfs (zN (υ 1 x)) (fun i => β 4 (8 * x + i) 0) = rfs (zN (υ 1 x)) (fun i => adA β a o s γ 4 (8 * x + i) 0) := by
          funext i
          unfold rfs
          split
          · next hi =>
            have i8 := cl x (by omega)
            show Option.some (β 4 (8 * x + i) 0) = Option.some (adA β a o s γ 4 (8 * x + i) 0)
            rw [adA_c (by omega)]
          · rfl
        rw [ef]
      | 4, z0 =>
        rw [bs_set_ne (R.ne z0 (lv0 rfl) (by omega)), bs_set_ne (R.ne z0 (lv0 rfl) (by omega)), same 4 x r z0, R.1 4 x r z0]
        obtain ⟨y0, a', i, y1, y2, y3, y4⟩ := z0
        have hx : x < 8 * a := by omega
        obtain ⟨q1, q2, q3, q4⟩ := eo x hx
        simp only [cont, cce, adA_c hx, q1, q2, q3, q4, e 3 (by decide)]
      | t + 5, z0 => exact absurd z0 id
    · rw [adA_2, bs_set_ne n0.1.symm, bs_set_ne n1.1.symm, a3]
      simp only [cont, adA_3, e 2 (by decide), e2]
    · rw [adA_3, bs_set_ne n0.2.1.symm, bs_set_ne n1.2.1.symm, a4]
      have ex : υ' 1 x = nI n := by
        rw [e1]
        exact if_pos rfl
      simp only [cont, ex, hz, adA_4]
      rfl
    · rw [adA_4, bs_set_ne (n0.2.2 k r hk hr), bs_set_ne (n1.2.2 k r hk hr), (a5 k r hk hr).2.2.2]
      obtain ⟨q1, q2, q3, q4⟩ := en k hk
      have : r = 0 ∨ r = 1 ∨ r = 2 ∨ r = 3 := by omega
      rcases this with rfl | rfl | rfl | rfl
      · simp only [cont, cce, nce, adA_4, q1, e 3 (by decide), e3 k (by omega)]
      · simp only [cont, cce, nce, q2, iRow]
      · simp only [cont, cce, nce, q3, iRow]
      · simp only [cont, cce, nce, q4, iRow]
  · have so : s ≠ o := a1
    rcases lq t x r z with z0 | ⟨rfl, rfl, rfl⟩ | ⟨rfl, rfl, rfl⟩ | ⟨rfl, k, hk, rfl, hr⟩ <;> rcases lq t' x' r' z' with z0' | ⟨rfl, rfl, rfl⟩ | ⟨rfl, rfl, rfl⟩ | ⟨rfl, k', hk', rfl, hr'⟩
    · rw [old t x r z0, old t' x' r' z0'] at w
      exact R.2.1 _ _ _ _ _ _ z0 z0' w
    · rw [old t x r z0, adA_2] at w
      exact absurd w (nw t x r z0).1
    · rw [old t x r z0, adA_3] at w
      exact absurd w (nw t x r z0).2.1
    · rw [old t x r z0, adA_4] at w
      exact absurd w.symm ((nw t x r z0).2.2 k' r' hk' hr')
    · rw [old t' x' r' z0', adA_2] at w
      exact absurd w.symm (nw t' x' r' z0').1
    · exact ⟨rfl, rfl, rfl⟩
    · rw [adA_2, adA_3] at w
      exact absurd w.symm so
    · rw [adA_2, adA_4] at w
      exact absurd w.symm (a5 k' r' hk' hr').2.1
    · rw [old t' x' r' z0', adA_3] at w
      exact absurd w.symm (nw t' x' r' z0').2.1
    · rw [adA_2, adA_3] at w
      exact absurd w so
    · exact ⟨rfl, rfl, rfl⟩
    · rw [adA_3, adA_4] at w
      exact absurd w.symm (a5 k' r' hk' hr').2.2.1
    · rw [old t' x' r' z0', adA_4] at w
      exact absurd w ((nw t' x' r' z0').2.2 k r hk hr)
    · rw [adA_2, adA_4] at w
      exact absurd w (a5 k r hk hr).2.1
    · rw [adA_3, adA_4] at w
      exact absurd w (a5 k r hk hr).2.2.1
    · rw [adA_4, adA_4] at w
      obtain ⟨q1, q2⟩ := a6 k r k' r' hk hr hk' hr' w
      exact ⟨rfl, by rw [q1], q2⟩
  · have fresh : ∀ b, h b = none → h0 b = none := fun b hb => by
      rw [← R.2.2.2 b (fun t x r z => R.some z hb)]
      exact hb
    rcases lq t x r z with z0 | ⟨rfl, rfl, rfl⟩ | ⟨rfl, rfl, rfl⟩ | ⟨rfl, k, hk, rfl, hr⟩
    · rw [old t x r z0]
      exact R.2.2.1 t x r z0
    · rw [adA_2]
      exact fresh o ho
    · rw [adA_3]
      exact fresh s a2
    · rw [adA_4]
      exact fresh _ (gn k r hk hr)
  · have b2 : ∀ t x r, lvI υ t x r → β t x r ≠ b := fun t x r z0 w => z t x r (ql t x r z0) (by rw [old t x r z0, w])
    have bo : b ≠ o := fun w => z 2 a 0 ⟨by omega, rfl⟩ (by rw [adA_2, w])
    have bs' : b ≠ s := fun w => z 3 a 0 ⟨by omega, rfl⟩ (by rw [adA_3, w])
    have bg : ∀ k r, k < n → r < 4 → γ k r ≠ b := fun k r hk hr w => z 4 (8 * a + k) r ⟨hr, a, k, rfl, by omega, by omega, by rw [e1]; unfold upd; rw [if_pos rfl, hz]; exact hk⟩ (by rw [adA_4, w])
    rw [bs_set_ne (fun w => b2 0 0 0 (lv0 rfl) w.symm), bs_set_ne (fun w => b2 0 1 0 (lv0 rfl) w.symm), a7 b bo bs' bg, bs_set_ne bo]
    exact R.2.2.2 b b2
end AddA
