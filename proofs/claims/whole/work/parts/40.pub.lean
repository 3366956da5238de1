/-! the class's public calls -/
section Pub
variable {G : GG} {h0 h : Hp} {B m : Nat} {σ κ ψ : MS} {p x v w : Int32}
theorem CR.M (C : CR G h0 m ψ B σ h) : ∃ fs, h m = some (.inr (5, fs)) := by
  obtain ⟨β, κ, rfl, P, R, S⟩ := C
  exact ⟨_, R.M⟩
theorem CR.inv (C : CR G h0 m ψ B σ h) : mInv σ := by
  obtain ⟨β, κ, rfl, P, R, S⟩ := C
  exact P.inv
theorem CR.up (C : CR G h0 m ψ B σ h) {B' : Nat} (hB : B ≤ B') : CR G h0 m ψ B' σ h := by
  obtain ⟨β, κ, e, P, R, S⟩ := C
  exact ⟨β, κ, e, P.up hB, R, S⟩
theorem fin_k {r : Int32 × MS} {k : Nat} (hk : k ≠ 15) : (fin r).2 k = r.2 k := by
  unfold fin
  show (if _ then _ else if _ then _ else if _ then _ else _ : MS) k = _
  split
  · exact err_k hk
  · split
    · exact err_k hk
    · split
      · exact err_k hk
      · rfl
theorem c_counted (C : CR G h0 m ψ B σ h) (h16 : σ 16 0 = 0) : bs_Sp G mX5_counted 0 0 0 [.ref m, .int x] h (fun r h' => r = some (.int x) ∧ CR G h0 m ψ B (fin (x, σ)).2 h') := by
  obtain ⟨β, κ, rfl, P, R, S⟩ := C
  exact (r_counted R h16).mono (fun r h' z => ⟨z.1, β, κ, rfl, P.of (fun k hk => fin_k (r := (x, σ)) (by omega)), z.2, S⟩)
theorem c_performRead (C : CR G h0 m ψ B σ h) : bs_Sp G mX5_performRead 2 0 0 [.ref m, .int p, .int x] h (fun r h' => r = some (.int (k_read σ p x).1) ∧ CR G h0 m ψ B (k_read σ p x).2 h') := by
  obtain ⟨β, κ, rfl, P, R, S⟩ := C
  exact (r_performRead R P).mono (fun r h' z => ⟨z.1, β, κ, rfl, PI_read P, z.2, S⟩)
theorem c_performWrite (C : CR G h0 m ψ B σ h) : bs_Sp G mX5_performWrite 3 0 0 [.ref m, .int p, .int x, .int v] h (fun r h' => r = some (.int (k_write σ p x v).1) ∧ CR G h0 m ψ B (k_write σ p x v).2 h') := by
  obtain ⟨β, κ, rfl, P, R, S⟩ := C
  exact (r_performWrite R P).mono (fun r h' z => ⟨z.1, β, κ, rfl, PI_write P, z.2, S⟩)
theorem c_performFree (C : CR G h0 m ψ B σ h) : bs_Sp G mX5_performFree 4 0 0 [.ref m, .int p] h (fun r h' => r = some (.int (k_free σ p).1) ∧ CR G h0 m ψ B (k_free σ p).2 h') := by
  obtain ⟨β, κ, rfl, P, R, S⟩ := C
  exact (r_performFree R P).mono (fun r h' z => ⟨z.1, β, κ, rfl, PI_free P, z.2, S⟩)
theorem c_performEnter (C : CR G h0 m ψ B σ h) (hB : B < 1000000) : bs_Sp G mX5_performEnter 1 0 0 [.ref m] h (fun r h' => r = some (.int (k_enter σ).1) ∧ CR G h0 m ψ (B + 1) (k_enter σ).2 h') := by
  obtain ⟨β, κ, rfl, P, R, S⟩ := C
  exact (r_performEnter R P hB).mono (fun r h' z => ⟨z.1, β, _, rfl, z.2.1, z.2.2, fun k k1 k2 => by
    rw [← S k k1 k2]
    unfold k_entK entK
    split
    · rfl
    · rw [ms_u_n (by omega), ms_u_n (by omega)]⟩)
theorem c_performLeave (C : CR G h0 m ψ B σ h) : bs_Sp G mX5_performLeave 1 0 0 [.ref m] h (fun r h' => r = some (.int (k_leave σ).1) ∧ CR G h0 m ψ B (k_leave σ).2 h') := by
  obtain ⟨β, κ, rfl, P, R, S⟩ := C
  exact (r_performLeave R P).mono (fun r h' z => ⟨z.1, β, κ, rfl, z.2.1, z.2.2, S⟩)
theorem CR.PI (C : CR G h0 m ψ B σ h) : ∃ κ, PI B σ κ := by
  obtain ⟨β, κ, rfl, P, R, S⟩ := C
  exact ⟨κ, P⟩
theorem p_read (C : CR G h0 m ψ B σ h) (h16 : σ 16 0 = 0) : bs_Sp G mX5_read 3 0 0 [.ref m, .int p, .int x] h (fun r h' => r = some (.int (s_read σ p x).1) ∧ CR G h0 m ψ (B) (s_read σ p x).2 h') := by
  obtain ⟨κ, P⟩ := C.PI
  obtain ⟨fs, hm⟩ := C.M
  have ef := fin_read (p := p) (c := x) P
  have k16 : (k_read σ p x).2 16 0 = 0 := by
    have := (ok_read (p := p) (c := x) P.inv).2 16 (Or.inl rfl)
    rw [ef, fin_k (by decide)] at this
    rw [this]
    exact h16
  rw [ef]
  refine bs_Sp.of (by decide) rfl ?_
  refine bs_aload_n (pc' := 1) dX5_read_0 rfl rfl rfl ?_
  refine bs_aload_n (pc' := 2) dX5_read_1 rfl rfl rfl ?_
  refine bs_iload_n (pc' := 3) dX5_read_2 rfl rfl ?_
  refine bs_iload_n (pc' := 4) dX5_read_3 rfl rfl ?_
  refine bs_callV (N := mX5_performRead) (pc' := 7) dX5_read_4 km_X5_53 ko_X5_performRead (c_performRead C) hm rfl rfl rfl (by omega) (Nat.le_refl _) (Nat.le_refl _) rfl ?_
  rintro _ h1 ⟨rfl, C1⟩
  obtain ⟨fs1, hm1⟩ := C1.M
  refine bs_callV (N := mX5_counted) (pc' := 10) dX5_read_7 km_X5_50 ko_X5_counted (c_counted C1 k16) hm1 rfl rfl rfl (by omega) (Nat.le_refl _) (Nat.le_refl _) rfl ?_
  rintro _ h2 ⟨rfl, C2⟩
  exact bs_iret dX5_read_10 rfl ⟨rfl, C2⟩
theorem p_write (C : CR G h0 m ψ B σ h) (h16 : σ 16 0 = 0) : bs_Sp G mX5_write 4 0 0 [.ref m, .int p, .int x, .int v] h (fun r h' => r = some (.int (s_write σ p x v).1) ∧ CR G h0 m ψ (B) (s_write σ p x v).2 h') := by
  obtain ⟨κ, P⟩ := C.PI
  obtain ⟨fs, hm⟩ := C.M
  have ef := fin_write (p := p) (c := x) (v := v) P
  have k16 : (k_write σ p x v).2 16 0 = 0 := by
    have := (ok_write (p := p) (c := x) (v := v) P.inv).2 16 (Or.inl rfl)
    rw [ef, fin_k (by decide)] at this
    rw [this]
    exact h16
  rw [ef]
  refine bs_Sp.of (by decide) rfl ?_
  refine bs_aload_n (pc' := 1) dX5_write_0 rfl rfl rfl ?_
  refine bs_aload_n (pc' := 2) dX5_write_1 rfl rfl rfl ?_
  refine bs_iload_n (pc' := 3) dX5_write_2 rfl rfl ?_
  refine bs_iload_n (pc' := 4) dX5_write_3 rfl rfl ?_
  refine bs_iload_n (pc' := 5) dX5_write_4 rfl rfl ?_
  refine bs_callV (N := mX5_performWrite) (pc' := 8) dX5_write_5 km_X5_57 ko_X5_performWrite (c_performWrite C) hm rfl rfl rfl (by omega) (Nat.le_refl _) (Nat.le_refl _) rfl ?_
  rintro _ h1 ⟨rfl, C1⟩
  obtain ⟨fs1, hm1⟩ := C1.M
  refine bs_callV (N := mX5_counted) (pc' := 11) dX5_write_8 km_X5_50 ko_X5_counted (c_counted C1 k16) hm1 rfl rfl rfl (by omega) (Nat.le_refl _) (Nat.le_refl _) rfl ?_
  rintro _ h2 ⟨rfl, C2⟩
  exact bs_iret dX5_write_11 rfl ⟨rfl, C2⟩
theorem p_free (C : CR G h0 m ψ B σ h) (h16 : σ 16 0 = 0) : bs_Sp G mX5_free 5 0 0 [.ref m, .int p] h (fun r h' => r = some (.int (s_free σ p).1) ∧ CR G h0 m ψ (B) (s_free σ p).2 h') := by
  obtain ⟨κ, P⟩ := C.PI
  obtain ⟨fs, hm⟩ := C.M
  have ef := fin_free (p := p) P
  have k16 : (k_free σ p).2 16 0 = 0 := by
    have := (ok_free (p := p) P.inv).2 16 (Or.inl rfl)
    rw [ef, fin_k (by decide)] at this
    rw [this]
    exact h16
  rw [ef]
  refine bs_Sp.of (by decide) rfl ?_
  refine bs_aload_n (pc' := 1) dX5_free_0 rfl rfl rfl ?_
  refine bs_aload_n (pc' := 2) dX5_free_1 rfl rfl rfl ?_
  refine bs_iload_n (pc' := 3) dX5_free_2 rfl rfl ?_
  refine bs_callV (N := mX5_performFree) (pc' := 6) dX5_free_3 km_X5_65 ko_X5_performFree (c_performFree C) hm rfl rfl rfl (by omega) (Nat.le_refl _) (Nat.le_refl _) rfl ?_
  rintro _ h1 ⟨rfl, C1⟩
  obtain ⟨fs1, hm1⟩ := C1.M
  refine bs_callV (N := mX5_counted) (pc' := 9) dX5_free_6 km_X5_50 ko_X5_counted (c_counted C1 k16) hm1 rfl rfl rfl (by omega) (Nat.le_refl _) (Nat.le_refl _) rfl ?_
  rintro _ h2 ⟨rfl, C2⟩
  exact bs_iret dX5_free_9 rfl ⟨rfl, C2⟩
theorem p_enterCall (C : CR G h0 m ψ B σ h) (h16 : σ 16 0 = 0) (hB : B < 1000000) : bs_Sp G mX5_enterCall 2 0 0 [.ref m] h (fun r h' => r = some (.int (s_enter σ).1) ∧ CR G h0 m ψ (B + 1) (s_enter σ).2 h') := by
  obtain ⟨κ, P⟩ := C.PI
  obtain ⟨fs, hm⟩ := C.M
  have ef := fin_enter P
  have k16 : (k_enter σ).2 16 0 = 0 := by
    have := (ok_enter P.inv).2 16 (Or.inl rfl)
    rw [ef, fin_k (by decide)] at this
    rw [this]
    exact h16
  rw [ef]
  refine bs_Sp.of (by decide) rfl ?_
  refine bs_aload_n (pc' := 1) dX5_enterCall_0 rfl rfl rfl ?_
  refine bs_aload_n (pc' := 2) dX5_enterCall_1 rfl rfl rfl ?_
  refine bs_callV (N := mX5_performEnter) (pc' := 5) dX5_enterCall_2 km_X5_68 ko_X5_performEnter (c_performEnter C hB) hm rfl rfl rfl (by omega) (Nat.le_refl _) (Nat.le_refl _) rfl ?_
  rintro _ h1 ⟨rfl, C1⟩
  obtain ⟨fs1, hm1⟩ := C1.M
  refine bs_callV (N := mX5_counted) (pc' := 8) dX5_enterCall_5 km_X5_50 ko_X5_counted (c_counted C1 k16) hm1 rfl rfl rfl (by omega) (Nat.le_refl _) (Nat.le_refl _) rfl ?_
  rintro _ h2 ⟨rfl, C2⟩
  exact bs_iret dX5_enterCall_8 rfl ⟨rfl, C2⟩
theorem p_leaveCall (C : CR G h0 m ψ B σ h) (h16 : σ 16 0 = 0) : bs_Sp G mX5_leaveCall 2 0 0 [.ref m] h (fun r h' => r = some (.int (s_leave σ).1) ∧ CR G h0 m ψ (B) (s_leave σ).2 h') := by
  obtain ⟨κ, P⟩ := C.PI
  obtain ⟨fs, hm⟩ := C.M
  have ef := fin_leave P
  have k16 : (k_leave σ).2 16 0 = 0 := by
    have := (ok_leave P.inv).2 16 (Or.inl rfl)
    rw [ef, fin_k (by decide)] at this
    rw [this]
    exact h16
  rw [ef]
  refine bs_Sp.of (by decide) rfl ?_
  refine bs_aload_n (pc' := 1) dX5_leaveCall_0 rfl rfl rfl ?_
  refine bs_aload_n (pc' := 2) dX5_leaveCall_1 rfl rfl rfl ?_
  refine bs_callV (N := mX5_performLeave) (pc' := 5) dX5_leaveCall_2 km_X5_72 ko_X5_performLeave (c_performLeave C) hm rfl rfl rfl (by omega) (Nat.le_refl _) (Nat.le_refl _) rfl ?_
  rintro _ h1 ⟨rfl, C1⟩
  obtain ⟨fs1, hm1⟩ := C1.M
  refine bs_callV (N := mX5_counted) (pc' := 8) dX5_leaveCall_5 km_X5_50 ko_X5_counted (c_counted C1 k16) hm1 rfl rfl rfl (by omega) (Nat.le_refl _) (Nat.le_refl _) rfl ?_
  rintro _ h2 ⟨rfl, C2⟩
  exact bs_iret dX5_leaveCall_8 rfl ⟨rfl, C2⟩
theorem p_reborrow {y : Int32} (C : CR G h0 m ψ B σ h) (h16 : σ 16 0 = 0) : bs_Sp G mX5_reborrow 6 1 2 [.ref m, .int p, .int x, .int v, .int w, .int y] h (fun r h' => r = some (.int (s_reb σ p x v w y).1) ∧ CR G h0 m ψ (B) (s_reb σ p x v w y).2 h') := by
  obtain ⟨κ, P⟩ := C.PI
  obtain ⟨fs, hm⟩ := C.M
  have ef := fin_reb (p := p) (kd := x) (fr := v) (ct := w) (pr := y) P
  have k16 : (k_reb σ p x v w y).2 16 0 = 0 := by
    have := (ok_reb (p := p) (kd := x) (fr := v) (ct := w) (pr := y) P.inv).2 16 (Or.inl rfl)
    rw [ef, fin_k (by decide)] at this
    rw [this]
    exact h16
  rw [ef]
  refine bs_Sp.of (by decide) rfl ?_
  refine bs_aload_n (pc' := 1) dX5_reborrow_0 rfl rfl rfl ?_
  refine bs_aload_n (pc' := 2) dX5_reborrow_1 rfl rfl rfl ?_
  refine bs_iload_n (pc' := 3) dX5_reborrow_2 rfl rfl ?_
  refine bs_iload_n (pc' := 4) dX5_reborrow_3 rfl rfl ?_
  refine bs_iload_n (pc' := 5) dX5_reborrow_4 rfl rfl ?_
  refine bs_iload (pc' := 7) dX5_reborrow_5 rfl rfl ?_
  refine bs_iload (pc' := 9) dX5_reborrow_7 rfl rfl ?_
  refine bs_callV (N := mX5_performReborrow) (pc' := 12) dX5_reborrow_9 km_X5_61 ko_X5_performReborrow (r_performReborrow C) hm rfl rfl rfl (by omega) (Nat.le_refl _) (Nat.le_refl _) rfl ?_
  rintro _ h1 ⟨rfl, C1⟩
  obtain ⟨fs1, hm1⟩ := C1.M
  refine bs_callV (N := mX5_counted) (pc' := 15) dX5_reborrow_12 km_X5_50 ko_X5_counted (c_counted C1 k16) hm1 rfl rfl rfl (by omega) (Nat.le_refl _) (Nat.le_refl _) rfl ?_
  rintro _ h2 ⟨rfl, C2⟩
  exact bs_iret dX5_reborrow_15 rfl ⟨rfl, C2⟩
theorem p_allocate (C : CR G h0 m ψ B σ h) (h16 : σ 16 0 = 0) : bs_Sp G mX5_allocate 4 (34 * (zN ((s_alloc σ p).2 0 0) - zN (σ 0 0)) + 1) (339 * (zN ((s_alloc σ p).2 0 0) - zN (σ 0 0)) + 2) [.ref m, .int p] h (fun r h' => r = some (.int (s_alloc σ p).1) ∧ CR G h0 m ψ (B) (s_alloc σ p).2 h') := by
  obtain ⟨κ, P⟩ := C.PI
  obtain ⟨fs, hm⟩ := C.M
  have ef := fin_alloc (m := p) P
  have k16 : (k_alloc σ p).2 16 0 = 0 := by
    have := (ok_alloc (m := p) P.inv).2 16 (Or.inl rfl)
    rw [ef, fin_k (by decide)] at this
    rw [this]
    exact h16
  rw [ef, fin_k (r := k_alloc σ p) (k := 0) (by decide)]
  refine bs_Sp.of (by decide) rfl ?_
  refine bs_aload_n (pc' := 1) dX5_allocate_0 rfl rfl rfl ?_
  refine bs_aload_n (pc' := 2) dX5_allocate_1 rfl rfl rfl ?_
  refine bs_iload_n (pc' := 3) dX5_allocate_2 rfl rfl ?_
  refine bs_callV (N := mX5_performAllocate) (pc' := 6) dX5_allocate_3 km_X5_46 ko_X5_performAllocate (r_performAllocate C) hm rfl rfl rfl (by omega) (Nat.le_of_eq (Nat.zero_add _)) (Nat.le_of_eq (Nat.zero_add _)) rfl ?_
  rintro _ h1 ⟨rfl, C1⟩
  obtain ⟨fs1, hm1⟩ := C1.M
  refine bs_callV (N := mX5_counted) (pc' := 9) dX5_allocate_6 km_X5_50 ko_X5_counted (c_counted C1 k16) hm1 rfl rfl rfl (by omega) (Nat.le_refl _) (Nat.le_refl _) rfl ?_
  rintro _ h2 ⟨rfl, C2⟩
  exact bs_iret dX5_allocate_9 rfl ⟨rfl, C2⟩
end Pub
