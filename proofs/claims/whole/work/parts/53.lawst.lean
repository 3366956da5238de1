/-! the law: both sides in one heap -/
section LawSt
variable {G : GG} {h h' : Hp} {y m B : Nat} {A : Nat → Nat} {σ τ τ' ψ : MS} {hs hs' : Int64}
abbrev nil : Hp := fun _ => none
theorem mh_mem {a : Nat} (hn : mh G nil y A σ hs a = none) : a ≠ y ∧ ∀ k, k ∈ mLa → A k ≠ a := by
  unfold mh at hn
  by_cases h1 : a = y
  · rw [if_pos h1] at hn
    cases hn
  · refine ⟨h1, fun k hk e => ?_⟩
    rw [if_neg h1] at hn
    cases hm : mix A a with
    | some j =>
      rw [hm] at hn
      cases hn
    | none =>
      have := List.find?_eq_none.mp hm k hk
      rw [e] at this
      simp at this
/-- at the reference's own places an overlay does not see what lies below -/
theorem mh_same {g g' : Hp} {a : Nat} (hn : ¬ (a ≠ y ∧ ∀ k, k ∈ mLa → A k ≠ a)) : mh G g y A σ hs a = mh G g' y A σ hs a := by
  unfold mh
  by_cases h1 : a = y
  · rw [if_pos h1, if_pos h1]
  · rw [if_neg h1, if_neg h1]
    cases hm : mix A a with
    | some j => rfl
    | none =>
      exfalso
      apply hn
      refine ⟨h1, fun k hk e => ?_⟩
      have := List.find?_eq_none.mp hm k hk
      rw [e] at this
      simp at this
theorem CR.self (C : CR G (mh G nil y A τ hs) m ψ B σ h) : mh G h y A τ hs = h := by
  obtain ⟨β, κ, e, P, R, S⟩ := C
  funext a
  by_cases q : a ≠ y ∧ ∀ k, k ∈ mLa → A k ≠ a
  · exact mh_o q.1 q.2
  · rw [mh_same (g' := nil) q]
    refine (R.2.2.2 a (fun t x r z w => q ?_)).symm
    rw [← w]
    exact mh_mem (R.2.2.1 t x r z)
theorem CR.swap (C : CR G (mh G nil y A τ hs) m ψ B σ h) : CR G (mh G nil y A τ' hs') m ψ B σ (mh G h y A τ' hs') := by
  obtain ⟨β, κ, e, P, R, S⟩ := C
  have ne : ∀ t x r, lvI (lk σ κ) t x r → β t x r ≠ y ∧ ∀ k, k ∈ mLa → A k ≠ β t x r := fun t x r z => mh_mem (R.2.2.1 t x r z)
  refine ⟨β, κ, e, P, ⟨fun t x r z => ?_, R.2.1, fun t x r z => ?_, fun a z => ?_⟩, S⟩
  · rw [mh_o (ne t x r z).1 (ne t x r z).2]
    exact R.1 t x r z
  · rw [mh_o (ne t x r z).1 (ne t x r z).2]
  · by_cases q : a ≠ y ∧ ∀ k, k ∈ mLa → A k ≠ a
    · rw [mh_o q.1 q.2, mh_o q.1 q.2, R.2.2.2 a z, mh_o q.1 q.2]
    · exact mh_same q
theorem mh_mh : mh G (mh G h y A τ hs) y A τ' hs' = mh G h y A τ' hs' := by
  funext a
  by_cases q : a ≠ y ∧ ∀ k, k ∈ mLa → A k ≠ a
  · rw [mh_o q.1 q.2, mh_o q.1 q.2, mh_o q.1 q.2]
  · exact mh_same q
/-- the law's heap between two of its calls -/
def LI (G : GG) (y m : Nat) (A : Nat → Nat) (B : Nat) (σ : MS) (h : Hp) : Prop := ∃ hs ψ, h = mh G h y A σ hs ∧ CR G (mh G nil y A σ hs) m ψ B σ h
end LawSt
def lwX (G : GG) (b L : Nat) (xs : Nat → Int32) : State → Prop := fun s => va_X b L xs s s.heap ∧ b < s.heap.size ∧ ¬ G.2.2 ≤ b
section LawRows
variable {G : GG} {M : MI} {d bc bs : Nat} {h : Hp} {pc : Nat} {lv : List (Nat × Value)} {st : List Value} {Q : Option Value → Hp → Prop} {b L : Nat} {xs : Nat → Int32}
theorem bl_sld {i : Int32} {pc' : Nat} (hd : decode M.2.1 pc = .ok (.iaload, 1)) (n : Nat) (hi : i = nI n) (hn : n < L ∧ L < 2 ^ 31) (hp : pc + 1 = pc') (kk : bs_B G (lwX G b L xs) M d bc bs h pc' lv (.int (xs n) :: st) Q) : bs_B G (lwX G b L xs) M d bc bs h pc lv (.int i :: .ref b :: st) Q := by
  subst hp
  subst hi
  intro p l e R s m args below meth c H locs cells slots QQ ls C hH hS hc hs hl hr
  have hX : lwX G b L xs s := C.2.2.2.2.2.1
  refine va_sld C.1 C.2.1 hX.1 hX.2.1 hX.2.2 hS (vp_in_nI hn.1 hn.2) hd ?_
  rw [nI_clamp (Nat.lt_trans hn.1 hn.2)]
  exact kk p l e R s m args below meth c H locs cells slots QQ ls C hH hS hc hs hl hr
theorem bl_slen {pc' : Nat} (hd : decode M.2.1 pc = .ok (.arraylength, 1)) (hp : pc + 1 = pc') (kk : bs_B G (lwX G b L xs) M d bc bs h pc' lv (.int (nI L) :: st) Q) : bs_B G (lwX G b L xs) M d bc bs h pc lv (.ref b :: st) Q := by
  subst hp
  intro p l e R s m args below meth c H locs cells slots QQ ls C hH hS hc hs hl hr
  have hX : lwX G b L xs s := C.2.2.2.2.2.1
  exact va_slen C.1 C.2.1 hX.1 hX.2.1 hX.2.2 hS hd (kk p l e R s m args below meth c H locs cells slots QQ ls C hH hS hc hs hl hr)
end LawRows
