/-! the constructor leaves the reference's cells, at the state z0 -/
def adr (q1 q2 q3 q4 q5 q6 q7 q9 q10 q15 q17 q19 q20 : Nat) : Nat → Nat := (fun k => match k with | 1 => q1 | 2 => q2 | 3 => q3 | 4 => q4 | 5 => q5 | 6 => q6 | 7 => q7 | 9 => q9 | 10 => q10 | 15 => q15 | 17 => q17 | 19 => q19 | _ => q20)
section X6b
variable {G : GG} {hb : Hp} {y q1 q2 q3 q4 q5 q6 q7 q9 q10 q15 q17 q19 q20 : Nat}
theorem mh_of (f : fr y [(q20, .inl (G.2.1 0, 180, .inl (fun _ => 0))), (q19, .inl (G.2.1 0, 60, .inl (fun _ => 0))), (q17, .inl (G.2.1 0, 120, .inl (fun _ => 0))), (q15, .inl (G.2.1 0, 3, .inl (fun _ => 0))), (q10, .inl (G.2.1 0, 60, .inl (fun _ => 0))), (q9, .inl (G.2.1 0, 60, .inl (fun _ => 0))), (q7, .inl (G.2.1 0, 960, .inl (fun _ => 0))), (q6, .inl (G.2.1 0, 960, .inl (fun _ => 0))), (q5, .inl (G.2.1 0, 960, .inl (fun _ => 0))), (q4, .inl (G.2.1 0, 80, .inl (fun _ => 0))), (q3, .inl (G.2.1 0, 80, .inl (fun _ => 0))), (q2, .inl (G.2.1 1, 10, .inl (fun _ => 0))), (q1, .inl (G.2.1 0, 10, .inl (fun _ => 0)))] hb) : mOk y (adr q1 q2 q3 q4 q5 q6 q7 q9 q10 q15 q17 q19 q20) ∧ bs_set (ov [(q20, .inl (G.2.1 0, 180, .inl (fun _ => 0))), (q19, .inl (G.2.1 0, 60, .inl (fun _ => 0))), (q17, .inl (G.2.1 0, 120, .inl (fun _ => 0))), (q15, .inl (G.2.1 0, 3, .inl (fun _ => 0))), (q10, .inl (G.2.1 0, 60, .inl (fun _ => 0))), (q9, .inl (G.2.1 0, 60, .inl (fun _ => 0))), (q7, .inl (G.2.1 0, 960, .inl (fun _ => 0))), (q6, .inl (G.2.1 0, 960, .inl (fun _ => 0))), (q5, .inl (G.2.1 0, 960, .inl (fun _ => 0))), (q4, .inl (G.2.1 0, 80, .inl (fun _ => 0))), (q3, .inl (G.2.1 0, 80, .inl (fun _ => 0))), (q2, .inl (G.2.1 1, 10, .inl (fun _ => 0))), (q1, .inl (G.2.1 0, 10, .inl (fun _ => 0)))] hb) y (.inr (6, [.int 0, .ref q1, .ref q2, .ref q3, .ref q4, .ref q5, .ref q6, .ref q7, .int 0, .ref q9, .ref q10, .int 0, .int 0, .int 0, .int (-1), .ref q15, .int 0, .ref q17, .int 0, .ref q19, .ref q20, .int 0, .int 0, .long 0])) = mh G hb y (adr q1 q2 q3 q4 q5 q6 q7 q9 q10 q15 q17 q19 q20) z0 0 := by
  have nd := f.1
  have nd2 := (List.nodup_cons.mp nd).2
  have hA : mOk y (adr q1 q2 q3 q4 q5 q6 q7 q9 q10 q15 q17 q19 q20) := by
    simp only [List.map_cons, List.map_nil, List.nodup_cons, List.mem_cons, List.not_mem_nil, or_false, not_or, not_false_eq_true, List.nodup_nil, and_true] at nd
    refine ⟨fun k hk => ?_, fun k hk k' hk' e => ?_⟩
    · simp only [mLa, List.mem_cons, List.not_mem_nil, or_false] at hk
      rcases hk with rfl | rfl | rfl | rfl | rfl | rfl | rfl | rfl | rfl | rfl | rfl | rfl | rfl <;> simp only [adr] <;> (intro e; subst e; simp at nd)
    · simp only [mLa, List.mem_cons, List.not_mem_nil, or_false] at hk hk'
      rcases hk with rfl | rfl | rfl | rfl | rfl | rfl | rfl | rfl | rfl | rfl | rfl | rfl | rfl <;> rcases hk' with rfl | rfl | rfl | rfl | rfl | rfl | rfl | rfl | rfl | rfl | rfl | rfl | rfl <;> simp only [adr] at e <;> first | rfl | (subst e; simp at nd)
  refine ⟨hA, ?_⟩
  funext a
  by_cases ha : a = y
  · rw [ha, bs_set_self, mh_y]
    rfl
  · rw [bs_set_ne ha]
    cases hm : mix (adr q1 q2 q3 q4 q5 q6 q7 q9 q10 q15 q17 q19 q20) a with
    | some k =>
      obtain ⟨hk, e⟩ := mix_some hm
      rw [← e, mh_a hA k (by simpa using hk)]
      simp only [mLa, List.mem_cons, List.not_mem_nil, or_false] at hk
      rcases hk with rfl | rfl | rfl | rfl | rfl | rfl | rfl | rfl | rfl | rfl | rfl | rfl | rfl
      · exact ov_at nd2 (q1, .inl (G.2.1 0, 10, .inl (fun _ => 0))) (by simp)
      · exact ov_at nd2 (q2, .inl (G.2.1 1, 10, .inl (fun _ => 0))) (by simp)
      · exact ov_at nd2 (q3, .inl (G.2.1 0, 80, .inl (fun _ => 0))) (by simp)
      · exact ov_at nd2 (q4, .inl (G.2.1 0, 80, .inl (fun _ => 0))) (by simp)
      · exact ov_at nd2 (q5, .inl (G.2.1 0, 960, .inl (fun _ => 0))) (by simp)
      · exact ov_at nd2 (q6, .inl (G.2.1 0, 960, .inl (fun _ => 0))) (by simp)
      · exact ov_at nd2 (q7, .inl (G.2.1 0, 960, .inl (fun _ => 0))) (by simp)
      · exact ov_at nd2 (q9, .inl (G.2.1 0, 60, .inl (fun _ => 0))) (by simp)
      · exact ov_at nd2 (q10, .inl (G.2.1 0, 60, .inl (fun _ => 0))) (by simp)
      · exact ov_at nd2 (q15, .inl (G.2.1 0, 3, .inl (fun _ => 0))) (by simp)
      · exact ov_at nd2 (q17, .inl (G.2.1 0, 120, .inl (fun _ => 0))) (by simp)
      · exact ov_at nd2 (q19, .inl (G.2.1 0, 60, .inl (fun _ => 0))) (by simp)
      · exact ov_at nd2 (q20, .inl (G.2.1 0, 180, .inl (fun _ => 0))) (by simp)
    | none =>
      have hn := List.find?_eq_none.mp hm
      have ne : ∀ k, k ∈ mLa → adr q1 q2 q3 q4 q5 q6 q7 q9 q10 q15 q17 q19 q20 k ≠ a := fun k hk e => by
        have := hn k hk
        rw [e] at this
        simp at this
      rw [mh_o ha ne]
      refine ov_o ?_
      simp only [List.map_cons, List.map_nil, List.mem_cons, List.not_mem_nil, or_false, not_or]
      exact ⟨fun z => ne 20 (by decide) z.symm, fun z => ne 19 (by decide) z.symm, fun z => ne 17 (by decide) z.symm, fun z => ne 15 (by decide) z.symm, fun z => ne 10 (by decide) z.symm, fun z => ne 9 (by decide) z.symm, fun z => ne 7 (by decide) z.symm, fun z => ne 6 (by decide) z.symm, fun z => ne 5 (by decide) z.symm, fun z => ne 4 (by decide) z.symm, fun z => ne 3 (by decide) z.symm, fun z => ne 2 (by decide) z.symm, fun z => ne 1 (by decide) z.symm⟩
end X6b
