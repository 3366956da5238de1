/-! the class's constructor -/
section X5i
variable {G : GG} {hb : Hp} {m : Nat} {L : List (Nat × va_E)} {o1 : va_E}
theorem ck_ov {k s : Nat} {K0 : va_E} {ser : Nat → Int32} {dp lat : Int32} (f : fr m L hb) (gk : bs_set (ov L hb) m o1 k = none) (hs : bs_set (bs_set (ov L hb) m o1) k K0 s = none) (sk : s ≠ k) : fr m ((s, iRow G 5 ser) :: (k, .inr (1, [.ref s, .int dp, .int lat])) :: L) hb ∧ k ≠ m ∧ s ≠ m ∧ ∀ o2, bs_set (ck2 G (bs_set (bs_set (ov L hb) m o1) k K0) k s ser dp lat) m o2 = bs_set (ov ((s, iRow G 5 ser) :: (k, .inr (1, [.ref s, .int dp, .int lat])) :: L) hb) m o2 := by
  obtain ⟨f1, km, -⟩ := fr_new (e := .inr (1, [.ref s, .int dp, .int lat])) f gk
  rw [bs_set_ne sk] at hs
  have sm : s ≠ m := fun z => by rw [z, bs_set_self] at hs; cases hs
  have hs' : bs_set (ov ((k, .inr (1, [.ref s, .int dp, .int lat])) :: L) hb) m o1 s = none := by
    rw [bs_set_ne sm]
    show bs_set (ov L hb) k _ s = none
    rw [bs_set_ne sk]
    rw [bs_set_ne sm] at hs
    exact hs
  obtain ⟨f2, -, -⟩ := fr_new (e := iRow G 5 ser) f1 hs'
  refine ⟨f2, km, sm, fun o2 => ?_⟩
  funext a
  show _ = bs_set (bs_set (bs_set (ov L hb) k (.inr (1, [.ref s, .int dp, .int lat]))) s (iRow G 5 ser)) m o2 a
  by_cases a1 : a = m
  · rw [a1, bs_set_self, bs_set_self]
  · rw [bs_set_ne a1, bs_set_ne a1]
    by_cases a2 : a = s
    · rw [a2, bs_set_self, ck_s sk]
      rfl
    · rw [bs_set_ne a2]
      by_cases a3 : a = k
      · rw [a3, bs_set_self, ck_k]
      · rw [bs_set_ne a3, ck_o a3 a2, bs_set_ne a3, bs_set_ne a1]
theorem sk_ov {o x l r : Nat} {K0 : va_E} {ψ : MS} (f : fr m L hb) (go : bs_set (ov L hb) m o1 o = none) (hx : bs_set (bs_set (ov L hb) m o1) o K0 x = none) (hl : bs_set (bs_set (ov L hb) m o1) o K0 l = none) (hr : bs_set (bs_set (ov L hb) m o1) o K0 r = none) (hD : d4 o x l r) : fr m ((r, iRow G 180 (ψ 20)) :: (l, iRow G 60 (ψ 19)) :: (x, iRow G 120 (ψ 17)) :: (o, .inr (4, [.ref x, .int (ψ 18 0), .ref l, .ref r, .int (ψ 21 0), .int (ψ 22 0)])) :: L) hb ∧ o ≠ m ∧ x ≠ m ∧ l ≠ m ∧ r ≠ m ∧ ∀ o2, bs_set (skH G (bs_set (bs_set (ov L hb) m o1) o K0) o x l r ψ) m o2 = bs_set (ov ((r, iRow G 180 (ψ 20)) :: (l, iRow G 60 (ψ 19)) :: (x, iRow G 120 (ψ 17)) :: (o, .inr (4, [.ref x, .int (ψ 18 0), .ref l, .ref r, .int (ψ 21 0), .int (ψ 22 0)])) :: L) hb) m o2 := by
  obtain ⟨d1, d2, d3, d5, d6, d7⟩ := id hD
  obtain ⟨f1, om, -⟩ := fr_new (e := .inr (4, [.ref x, .int (ψ 18 0), .ref l, .ref r, .int (ψ 21 0), .int (ψ 22 0)])) f go
  rw [bs_set_ne d1] at hx
  rw [bs_set_ne d2] at hl
  rw [bs_set_ne d3] at hr
  have xm : x ≠ m := fun z => by rw [z, bs_set_self] at hx; cases hx
  have lm : l ≠ m := fun z => by rw [z, bs_set_self] at hl; cases hl
  have rm : r ≠ m := fun z => by rw [z, bs_set_self] at hr; cases hr
  rw [bs_set_ne xm] at hx
  rw [bs_set_ne lm] at hl
  rw [bs_set_ne rm] at hr
  obtain ⟨f2, -, -⟩ := fr_new (o1 := o1) (q := x) (e := iRow G 120 (ψ 17)) f1 (by
    rw [bs_set_ne xm]
    show bs_set (ov L hb) o _ x = none
    rw [bs_set_ne d1]
    exact hx)
  obtain ⟨f3, -, -⟩ := fr_new (o1 := o1) (q := l) (e := iRow G 60 (ψ 19)) f2 (by
    rw [bs_set_ne lm]
    show bs_set (bs_set (ov L hb) o _) x _ l = none
    rw [bs_set_ne d5, bs_set_ne d2]
    exact hl)
  obtain ⟨f4, -, -⟩ := fr_new (o1 := o1) (q := r) (e := iRow G 180 (ψ 20)) f3 (by
    rw [bs_set_ne rm]
    show bs_set (bs_set (bs_set (ov L hb) o _) x _) l _ r = none
    rw [bs_set_ne d7, bs_set_ne d6, bs_set_ne d3]
    exact hr)
  refine ⟨f4, om, xm, lm, rm, fun o2 => ?_⟩
  funext a
  show _ = bs_set (bs_set (bs_set (bs_set (bs_set (ov L hb) o (.inr (4, [.ref x, .int (ψ 18 0), .ref l, .ref r, .int (ψ 21 0), .int (ψ 22 0)]))) x (iRow G 120 (ψ 17))) l (iRow G 60 (ψ 19))) r (iRow G 180 (ψ 20))) m o2 a
  by_cases a1 : a = m
  · rw [a1, bs_set_self, bs_set_self]
  · rw [bs_set_ne a1, bs_set_ne a1]
    by_cases a2 : a = r
    · rw [a2, bs_set_self, sk_r hD]
      rfl
    · rw [bs_set_ne a2]
      by_cases a3 : a = l
      · rw [a3, bs_set_self, sk_l hD]
        rfl
      · rw [bs_set_ne a3]
        by_cases a4 : a = x
        · rw [a4, bs_set_self, sk_x hD]
          rfl
        · rw [bs_set_ne a4]
          by_cases a5 : a = o
          · rw [a5, bs_set_self, sk_o]
          · rw [bs_set_ne a5, sk_ot a5 a4 a3 a2, bs_set_ne a5, bs_set_ne a1]
end X5i
