section X5b
variable {G : GG} {hb : Hp} {m : Nat}
theorem PI_z0 : PI 0 z0 (fun _ _ => 0) := by
  have e : ∀ k i, k ≠ 14 → z0 k i = 0 := fun k i hk => if_neg hk
  refine ⟨?_, ?_, ?_, ?_, ?_, ?_, ?_, nn_0, ?_, ?_, ?_⟩
  · refine ⟨nn_0, nn_0, nn_0, nn_0, fun a ha => absurd (show a < 0 from ha) (by omega), fun a ha => absurd (show a < 0 from ha) (by omega), fun c hc => nn_0, fun c _ _ => rfl⟩
  · intro c _
    exact Int32.le_refl _
  · exact fun a _ => Or.inl rfl
  · exact fun a _ => Or.inl rfl
  · exact fun a _ _ => rfl
  · exact fun a _ _ => rfl
  · exact fun a _ _ => ⟨rfl, rfl, rfl, rfl⟩
  · exact ⟨fun l hl => absurd (show l < 0 from hl) (by omega), fun l l' _ hl => absurd (show l' < 0 from hl) (by omega)⟩
  · exact fun i _ => nn_0
  · exact fun i _ => Or.inl ⟨rfl, fun l hl => absurd (show l < 0 from hl) (by omega)⟩
def be0 (m a p k s o x l r e : Nat) : AB := fun _ j _ => match j with
  | 0 => m
  | 1 => a
  | 2 => p
  | 3 => k
  | 4 => s
  | 5 => o
  | 6 => x
  | 7 => l
  | 8 => r
  | _ => e
theorem CR_z0 {a p k s o x l r e : Nat} {h' : Hp} (nd : [m, e, r, l, x, o, s, k, p, a].Nodup) (hn : ∀ j, j < 10 → hb (be0 m a p k s o x l r e 0 j 0) = none) (hc : ∀ j, j < 10 → h' (be0 m a p k s o x l r e 0 j 0) = some (cob G (be0 m a p k s o x l r e) (lk z0 (fun _ _ => 0)) j)) (ho : ∀ b, b ∉ [m, e, r, l, x, o, s, k, p, a] → h' b = hb b) : CR G hb m (fun _ _ => 0) 0 z0 h' := by
  have lq : ∀ t y q, lvI (lk z0 (fun _ _ => 0)) t y q → t = 0 ∧ y < 10 ∧ q = 0 := by
    intro t y q z
    match t, z with
    | 0, z => exact ⟨rfl, z.1, z.2⟩
    | 1, z => exact absurd (show y < 0 from z.1) (by omega)
    | 2, z => exact absurd (show y < 0 from z.1) (by omega)
    | 3, z => exact absurd (show y < 0 from z.1) (by omega)
    | 4, z =>
      obtain ⟨-, a', i, -, -, z3, -⟩ := z
      exact absurd (show a' < 0 from z3) (by omega)
    | t + 5, z => exact absurd z id
  simp only [List.nodup_cons, List.mem_cons, List.not_mem_nil, or_false, not_or, not_false_eq_true, List.nodup_nil, and_true] at nd
  refine ⟨be0 m a p k s o x l r e, fun _ _ => 0, rfl, PI_z0, ⟨fun t y q z => ?_, fun t y q t' y' q' z z' w => ?_, fun t y q z => ?_, fun b z => ?_⟩, fun _ _ _ => rfl⟩
  · obtain ⟨rfl, hy, rfl⟩ := lq t y q z
    exact hc y hy
  · obtain ⟨rfl, hy, rfl⟩ := lq t y q z
    obtain ⟨rfl, hy', rfl⟩ := lq t' y' q' z'
    refine ⟨rfl, ?_, rfl⟩
    have c1 : y = 0 ∨ y = 1 ∨ y = 2 ∨ y = 3 ∨ y = 4 ∨ y = 5 ∨ y = 6 ∨ y = 7 ∨ y = 8 ∨ y = 9 := by omega
    have c2 : y' = 0 ∨ y' = 1 ∨ y' = 2 ∨ y' = 3 ∨ y' = 4 ∨ y' = 5 ∨ y' = 6 ∨ y' = 7 ∨ y' = 8 ∨ y' = 9 := by omega
    clear hn hc ho lq z z' hy hy'
    rcases c1 with rfl | rfl | rfl | rfl | rfl | rfl | rfl | rfl | rfl | rfl <;> rcases c2 with rfl | rfl | rfl | rfl | rfl | rfl | rfl | rfl | rfl | rfl <;> simp only [be0] at w <;> first | rfl | (subst w; simp at nd)
  · obtain ⟨rfl, hy, rfl⟩ := lq t y q z
    exact hn y hy
  · refine ho b ?_
    have ne : ∀ j, Nat.blt j 10 = true → be0 m a p k s o x l r e 0 j 0 ≠ b := fun j hj => z 0 j 0 (lv0 hj)
    simp only [List.mem_cons, List.not_mem_nil, or_false, not_or]
    exact ⟨fun w => ne 0 rfl w.symm, fun w => ne 9 rfl w.symm, fun w => ne 8 rfl w.symm, fun w => ne 7 rfl w.symm, fun w => ne 6 rfl w.symm, fun w => ne 5 rfl w.symm, fun w => ne 4 rfl w.symm, fun w => ne 3 rfl w.symm, fun w => ne 2 rfl w.symm, fun w => ne 1 rfl w.symm⟩
end X5b
