/-! the start: classes, arrays, the empty heap -/
theorem bs_TB.start {s : State} {a0 : Array Value} (h : ∀ w ∈ lw_tbl, w.before a0 s = true) : bs_TB s := by
  intro w hw hk a
  have h0 := h w hw
  have hW : s.WarmedH s.vm := State.WarmedH.refl s
  cases w with
  | arrayClass ty => exact word_at hW (Or.inr ⟨ty, rfl⟩) h0
  | arrayOver t =>
    cases t with
    | object C => exact va_AO.use (va_AO.of h0)
    | _ => exact word_at hW (Or.inl hk) h0
  | fieldLinkNest _ _ _ _ _ _ => exact va_Nw.use rfl (va_Nw.of rfl h0)
  | methodLinkNest _ _ _ _ => exact va_Nw.use rfl (va_Nw.of rfl h0)
  | _ => exact word_at hW (Or.inl hk) h0
theorem st_cl {s : State} {a0 : Array Value} (hts : ∀ w ∈ lw_tbl, w.before a0 s = true) : ∃ (dC : Nat → ClassId) (dI : Nat → Nat → Nat), ∀ (k : Nat) (q : vw_C), vwCl[k]? = some q → u_Kn s q.1 q.2.1 q.2.2 (dC k) (dI k) := by
  obtain ⟨c0, i0, k0⟩ := u_known (C := RX0) (T := TX0) (N := 3) (n := 3) hts (fun w hw => (cl_0.2.1 w hw).1) (hts _ kin_0)
  obtain ⟨c1, i1, k1⟩ := u_known (C := RX1) (T := TX1) (N := 3) (n := 3) hts (fun w hw => (cl_1.2.1 w hw).1) (hts _ kin_1)
  obtain ⟨c2, i2, k2⟩ := u_known (C := RX2) (T := TX2) (N := 5) (n := 5) hts (fun w hw => (cl_2.2.1 w hw).1) (hts _ kin_2)
  obtain ⟨c3, i3, k3⟩ := u_known (C := RX3) (T := TX3) (N := 2) (n := 2) hts (fun w hw => (cl_3.2.1 w hw).1) (hts _ kin_3)
  obtain ⟨c4, i4, k4⟩ := u_known (C := RX4) (T := TX4) (N := 6) (n := 6) hts (fun w hw => (cl_4.2.1 w hw).1) (hts _ kin_4)
  obtain ⟨c5, i5, k5⟩ := u_known (C := RX5) (T := TX5) (N := 10) (n := 10) hts (fun w hw => (cl_5.2.1 w hw).1) (hts _ kin_5)
  obtain ⟨c6, i6, k6⟩ := u_known (C := RX6) (T := TX6) (N := 24) (n := 24) hts (fun w hw => (cl_6.2.1 w hw).1) (hts _ kin_6)
  refine ⟨(fun k => match k with | 0 => c0 | 1 => c1 | 2 => c2 | 3 => c3 | 4 => c4 | 5 => c5 | _ => c6), (fun k => match k with | 0 => i0 | 1 => i1 | 2 => i2 | 3 => i3 | 4 => i4 | 5 => i5 | _ => i6), ?_⟩
  intro k q hq
  match k, hq with
  | 0, hq => cases hq; exact k0
  | 1, hq => cases hq; exact k1
  | 2, hq => cases hq; exact k2
  | 3, hq => cases hq; exact k3
  | 4, hq => cases hq; exact k4
  | 5, hq => cases hq; exact k5
  | 6, hq => cases hq; exact k6
  | k + 7, hq => simp at hq
theorem st_ar {s : State} {a0 : Array Value} (hts : ∀ w ∈ lw_tbl, w.before a0 s = true) : ∃ ct : Nat → ClassId, ∀ (k : Nat) (q : ClassId × FieldType), (bs_TYS ct)[k]? = some q → ArrOfT s q.1 q.2 ∧ va_RA s q.1 q.2 := by
  obtain ⟨c0, k0, o0, f0, g0, h0⟩ := Cond.arrayClass_spec (hts _ kar_I)
  obtain ⟨c1, k1, o1, f1, g1, h1⟩ := Cond.arrayClass_spec (hts _ kar_Z)
  obtain ⟨o2, c2, k2, e2, -, g2, h2, f2⟩ := Cond.arrayOver_spec (hts _ kao_0)
  obtain ⟨o3, c3, k3, e3, -, g3, h3, f3⟩ := Cond.arrayOver_spec (hts _ kao_3)
  obtain ⟨o4, c4, k4, e4, -, g4, h4, f4⟩ := Cond.arrayOver_spec (hts _ kao_2)
  refine ⟨(fun k => match k with | 0 => c0 | 1 => c1 | 2 => c2 | 3 => c3 | _ => c4), ?_⟩
  intro k q hq
  match k, hq with
  | 0, hq => cases hq; exact ⟨fun n z => ⟨fun k h => (by cases h), k0, g0, o0, h0⟩, f0⟩
  | 1, hq => cases hq; exact ⟨fun n z => ⟨fun k h => (by cases h), k1, g1, o1, h1⟩, f1⟩
  | 2, hq => cases hq; exact ⟨fun n z => ⟨fun k h => (by cases h), k2, g2, o2, h2⟩, ⟨k2, o2, g2, h2, e2, f2⟩⟩
  | 3, hq => cases hq; exact ⟨fun n z => ⟨fun k h => (by cases h), k3, g3, o3, h3⟩, ⟨k3, o3, g3, h3, e3, f3⟩⟩
  | 4, hq => cases hq; exact ⟨fun n z => ⟨fun k h => (by cases h), k4, g4, o4, h4⟩, ⟨k4, o4, g4, h4, e4, f4⟩⟩
  | k + 5, hq => simp [bs_TYS] at hq
theorem st_H {G : GG} {H : Heap} : bs_H G nil H := ⟨[], fun k q h => by simp at h, ⟨fun i j p q h => by simp at h, fun k q h => by simp at h⟩, fun a e h => by cases h⟩
