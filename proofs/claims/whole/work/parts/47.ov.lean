/-! a heap with a list of new cells laid over it, and one object ahead of them -/
def ov : List (Nat × va_E) → Hp → Hp
  | [], hb => hb
  | p :: L, hb => bs_set (ov L hb) p.1 p.2
/-- the object y and the new cells are all new, and differ -/
def fr (y : Nat) (L : List (Nat × va_E)) (hb : Hp) : Prop := (y :: L.map (fun p => p.1)).Nodup ∧ hb y = none ∧ ∀ p, p ∈ L → hb p.1 = none
section Ov
variable {G : GG} {hb : Hp} {y q : Nat} {L : List (Nat × va_E)} {e o1 o2 : va_E}
theorem ov_o {a : Nat} : ∀ {L : List (Nat × va_E)}, a ∉ L.map (fun p => p.1) → ov L hb a = hb a
  | [], _ => rfl
  | p :: L, h => by
    rw [List.map_cons, List.mem_cons, not_or] at h
    unfold ov
    rw [bs_set_ne h.1]
    exact ov_o h.2
theorem ov_at : ∀ {L : List (Nat × va_E)}, (L.map (fun p => p.1)).Nodup → ∀ p, p ∈ L → ov L hb p.1 = some p.2
  | [], _, p, h => by cases h
  | r :: L, hn, p, h => by
    rw [List.map_cons, List.nodup_cons] at hn
    unfold ov
    rcases List.mem_cons.mp h with rfl | h
    · exact bs_set_self
    · rw [bs_set_ne (fun z => hn.1 (by rw [← z]; exact List.mem_map_of_mem h))]
      exact ov_at hn.2 p h
theorem ov_none : ∀ {L : List (Nat × va_E)} {a : Nat}, ov L hb a = none → a ∉ L.map (fun p => p.1) ∧ hb a = none
  | [], a, h => ⟨by simp, h⟩
  | p :: L, a, h => by
    unfold ov at h
    by_cases z : a = p.1
    · rw [z, bs_set_self] at h
      cases h
    · rw [bs_set_ne z] at h
      obtain ⟨h1, h2⟩ := ov_none h
      refine ⟨?_, h2⟩
      rw [List.map_cons, List.mem_cons, not_or]
      exact ⟨z, h1⟩
/-- a new cell -/
theorem fr_new (h : fr y L hb) (hq : bs_set (ov L hb) y o1 q = none) : fr y ((q, e) :: L) hb ∧ q ≠ y ∧ ∀ o2, bs_set (bs_set (bs_set (ov L hb) y o1) q e) y o2 = bs_set (ov ((q, e) :: L) hb) y o2 := by
  have qy : q ≠ y := fun z => by rw [z, bs_set_self] at hq; cases hq
  rw [bs_set_ne qy] at hq
  obtain ⟨h1, h2⟩ := ov_none hq
  have h3 := h.1
  rw [List.nodup_cons] at h3
  refine ⟨⟨?_, h.2.1, fun p hp => ?_⟩, qy, fun o2 => ?_⟩
  · rw [List.map_cons, List.nodup_cons, List.mem_cons, not_or, List.nodup_cons]
    exact ⟨⟨qy.symm, h3.1⟩, h1, h3.2⟩
  · rcases List.mem_cons.mp hp with rfl | hp
    · exact h2
    · exact h.2.2 p hp
  · funext a
    show _ = bs_set (bs_set (ov L hb) q e) y o2 a
    by_cases a1 : a = y
    · rw [a1, bs_set_self, bs_set_self]
    · rw [bs_set_ne a1, bs_set_ne a1]
      by_cases a2 : a = q
      · rw [a2, bs_set_self, bs_set_self]
      · rw [bs_set_ne a2, bs_set_ne a1, bs_set_ne a2]
end Ov
