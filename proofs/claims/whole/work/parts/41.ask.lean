/-! the class's questions -/
section Ask
variable {G : GG} {h0 h : Hp} {B m : Nat} {σ ψ : MS} {p x v w : Int32}
theorem bI_d {Q : Prop} [Decidable Q] : bI (decide Q) = if Q then 1 else 0 := by
  unfold bI
  by_cases q : Q <;> simp [q]
theorem p_checkRead (C : CR G h0 m ψ B σ h) (h16 : σ 16 0 = 0) : bs_Sp G mX5_checkRead 2 0 0 [.ref m, .int p, .int x] h (fun r h' => r = some (.int (s_ckR σ p x).1) ∧ CR G h0 m ψ B (s_ckR σ p x).2 h') := by
  obtain ⟨β, κ, rfl, P, R, S⟩ := C
  rcases pc_cases P p x with hp | ⟨j, rfl, hj, hx⟩ | ⟨j, i, rfl, rfl, hi⟩
  · have ek : s_ckR σ p x = (-2, err σ 0) := by
      unfold s_ckR
      rw [isC_p hp]
      rfl
    rw [ek]
    refine bs_Sp.of (by decide) rfl ?_
    refine bs_aload_n (pc' := 1) dX5_checkRead_0 rfl rfl rfl ?_
    refine bs_iload_n (pc' := 2) dX5_checkRead_1 rfl rfl ?_
    refine bs_callV (N := mX5_pointerAt) (pc' := 5) dX5_checkRead_2 km_X5_75 ko_X5_pointerAt (r_pointerAtN R P hp) R.M rfl rfl rfl (by omega) (Nat.le_refl _) (Nat.le_refl _) rfl ?_
    rintro _ _ ⟨rfl, rfl⟩
    refine bs_astore_n (pc' := 6) (lv' := [(0, _), (1, _), (2, _), (3, _)]) dX5_checkRead_5 rfl rfl rfl rfl ?_
    refine bs_aload_n (pc' := 7) dX5_checkRead_6 rfl rfl rfl ?_
    refine bs_iload_n (pc' := 8) dX5_checkRead_7 rfl rfl ?_
    refine bs_callS (N := mX5_cellThrough) (pc' := 11) dX5_checkRead_8 km_X5_79 ko_X5_cellThrough r_cellThroughN rfl rfl rfl (by omega) (Nat.le_refl _) (Nat.le_refl _) rfl ?_
    rintro _ _ ⟨rfl, rfl⟩
    refine bs_astore (pc' := 13) (lv' := [(0, _), (1, _), (2, _), (3, _), (4, _)]) dX5_checkRead_11 rfl rfl rfl rfl ?_
    refine bs_aload_n (pc' := 14) dX5_checkRead_13 rfl rfl rfl ?_
    refine bs_ifnullN (tgt := 22) dX5_checkRead_14 rfl ?_
    refine bs_aload_n (pc' := 23) dX5_checkRead_22 rfl rfl rfl ?_
    refine bs_bipush (v := (-2)) (pc' := 25) dX5_checkRead_23 (by decide) rfl ?_
    refine bs_callV (N := mX5_counted) (pc' := 28) dX5_checkRead_25 km_X5_50 ko_X5_counted (c_counted ⟨β, κ, rfl, P, R, S⟩ h16) R.M rfl rfl rfl (by omega) (Nat.le_refl _) (Nat.le_refl _) rfl ?_
    rintro _ h2 ⟨rfl, C2⟩
    exact bs_iret dX5_checkRead_28 rfl ⟨rfl, C2⟩
  · have ek : s_ckR σ (nI j) x = (-2, err σ 0) := by
      unfold s_ckR
      rw [isC_c P hj hx]
      rfl
    rw [ek]
    refine bs_Sp.of (by decide) rfl ?_
    refine bs_aload_n (pc' := 1) dX5_checkRead_0 rfl rfl rfl ?_
    refine bs_iload_n (pc' := 2) dX5_checkRead_1 rfl rfl ?_
    refine bs_callV (N := mX5_pointerAt) (pc' := 5) dX5_checkRead_2 km_X5_75 ko_X5_pointerAt (r_pointerAt R P hj) R.M rfl rfl rfl (by omega) (Nat.le_refl _) (Nat.le_refl _) rfl ?_
    rintro _ _ ⟨rfl, rfl⟩
    refine bs_astore_n (pc' := 6) (lv' := [(0, _), (1, _), (2, _), (3, _)]) dX5_checkRead_5 rfl rfl rfl rfl ?_
    refine bs_aload_n (pc' := 7) dX5_checkRead_6 rfl rfl rfl ?_
    refine bs_iload_n (pc' := 8) dX5_checkRead_7 rfl rfl ?_
    refine bs_callS (N := mX5_cellThrough) (pc' := 11) dX5_checkRead_8 km_X5_79 ko_X5_cellThrough (r_cellThroughO R P hj hx) rfl rfl rfl (by omega) (Nat.le_refl _) (Nat.le_refl _) rfl ?_
    rintro _ _ ⟨rfl, rfl⟩
    refine bs_astore (pc' := 13) (lv' := [(0, _), (1, _), (2, _), (3, _), (4, _)]) dX5_checkRead_11 rfl rfl rfl rfl ?_
    refine bs_aload_n (pc' := 14) dX5_checkRead_13 rfl rfl rfl ?_
    refine bs_ifnull (pc' := 17) dX5_checkRead_14 rfl ?_
    refine bs_aload (pc' := 19) dX5_checkRead_17 rfl rfl rfl ?_
    refine bs_ifnonnullN (pc' := 22) dX5_checkRead_19 rfl ?_
    refine bs_aload_n (pc' := 23) dX5_checkRead_22 rfl rfl rfl ?_
    refine bs_bipush (v := (-2)) (pc' := 25) dX5_checkRead_23 (by decide) rfl ?_
    refine bs_callV (N := mX5_counted) (pc' := 28) dX5_checkRead_25 km_X5_50 ko_X5_counted (c_counted ⟨β, κ, rfl, P, R, S⟩ h16) R.M rfl rfl rfl (by omega) (Nat.le_refl _) (Nat.le_refl _) rfl ?_
    rintro _ h2 ⟨rfl, C2⟩
    exact bs_iret dX5_checkRead_28 rfl ⟨rfl, C2⟩
  · have hj := hi.1
    have ha := (P.inv.ow hj).2
    have hc := P.isL hi
    have h60 := P.inv.p60 hj
    have h8 := (P.inv.cell hi).1
    have ek : s_ckR σ (nI j) (nI i) = (rdK σ j i, σ) := by
      unfold s_ckR
      rw [isC_nI P.inv hi, if_pos rfl, zN_nI (by omega), zN_nI (by omega)]
    rw [ek]
    by_cases hf : σ 2 (zN (σ 9 j)) = 0
    · have eK : rdK σ j i = rdW σ (cO σ j i) (nI j) := by rw [rdK_W, if_neg (fun z => z hf)]
      rw [eK]
      refine bs_Sp.of (by decide) rfl ?_
      refine bs_aload_n (pc' := 1) dX5_checkRead_0 rfl rfl rfl ?_
      refine bs_iload_n (pc' := 2) dX5_checkRead_1 rfl rfl ?_
      refine bs_callV (N := mX5_pointerAt) (pc' := 5) dX5_checkRead_2 km_X5_75 ko_X5_pointerAt (r_pointerAt R P hj) R.M rfl rfl rfl (by omega) (Nat.le_refl _) (Nat.le_refl _) rfl ?_
      rintro _ _ ⟨rfl, rfl⟩
      refine bs_astore_n (pc' := 6) (lv' := [(0, _), (1, _), (2, _), (3, _)]) dX5_checkRead_5 rfl rfl rfl rfl ?_
      refine bs_aload_n (pc' := 7) dX5_checkRead_6 rfl rfl rfl ?_
      refine bs_iload_n (pc' := 8) dX5_checkRead_7 rfl rfl ?_
      refine bs_callS (N := mX5_cellThrough) (pc' := 11) dX5_checkRead_8 km_X5_79 ko_X5_cellThrough (r_cellThrough R P hi) rfl rfl rfl (by omega) (Nat.le_refl _) (Nat.le_refl _) rfl ?_
      rintro _ _ ⟨rfl, rfl⟩
      refine bs_astore (pc' := 13) (lv' := [(0, _), (1, _), (2, _), (3, _), (4, _)]) dX5_checkRead_11 rfl rfl rfl rfl ?_
      refine bs_aload_n (pc' := 14) dX5_checkRead_13 rfl rfl rfl ?_
      refine bs_ifnull (pc' := 17) dX5_checkRead_14 rfl ?_
      refine bs_aload (pc' := 19) dX5_checkRead_17 rfl rfl rfl ?_
      refine bs_ifnonnull (tgt := 29) dX5_checkRead_19 rfl ?_
      refine bs_aload_n (pc' := 30) dX5_checkRead_29 rfl rfl rfl ?_
      refine bs_getf (pc' := 33) kf_X5_83 dX5_checkRead_30 (R.P hj) rfl rfl ?_
      refine bs_getf (pc' := 36) kf_X5_87 dX5_checkRead_33 (R.O ha) rfl rfl ?_
      refine bs_if_eq (tgt := 43) (pc' := 39) dX5_checkRead_36 rfl rfl (fun _ => ?_) (fun c36 => absurd hf c36)
      refine bs_aload (pc' := 45) dX5_checkRead_43 rfl rfl rfl ?_
      refine bs_iload_n (pc' := 46) dX5_checkRead_45 rfl rfl ?_
      refine bs_aload_n (pc' := 47) dX5_checkRead_46 rfl rfl rfl ?_
      refine bs_getf (pc' := 50) kf_X5_24 dX5_checkRead_47 R.M rfl rfl ?_
      refine bs_callV (N := mX2_readViolation) (pc' := 53) dX5_checkRead_50 km_X5_91 ko_X2_readViolation (rc_readViolation R P hc) (R.E hc) rfl rfl rfl (by omega) (Nat.le_refl _) (Nat.le_refl _) rfl ?_
      rintro _ _ ⟨rfl, rfl⟩
      exact bs_iret dX5_checkRead_53 rfl ⟨rfl, β, κ, rfl, P, R, S⟩
    · have eK : rdK σ j i = 3 := by rw [rdK_W, if_pos hf]
      rw [eK]
      refine bs_Sp.of (by decide) rfl ?_
      refine bs_aload_n (pc' := 1) dX5_checkRead_0 rfl rfl rfl ?_
      refine bs_iload_n (pc' := 2) dX5_checkRead_1 rfl rfl ?_
      refine bs_callV (N := mX5_pointerAt) (pc' := 5) dX5_checkRead_2 km_X5_75 ko_X5_pointerAt (r_pointerAt R P hj) R.M rfl rfl rfl (by omega) (Nat.le_refl _) (Nat.le_refl _) rfl ?_
      rintro _ _ ⟨rfl, rfl⟩
      refine bs_astore_n (pc' := 6) (lv' := [(0, _), (1, _), (2, _), (3, _)]) dX5_checkRead_5 rfl rfl rfl rfl ?_
      refine bs_aload_n (pc' := 7) dX5_checkRead_6 rfl rfl rfl ?_
      refine bs_iload_n (pc' := 8) dX5_checkRead_7 rfl rfl ?_
      refine bs_callS (N := mX5_cellThrough) (pc' := 11) dX5_checkRead_8 km_X5_79 ko_X5_cellThrough (r_cellThrough R P hi) rfl rfl rfl (by omega) (Nat.le_refl _) (Nat.le_refl _) rfl ?_
      rintro _ _ ⟨rfl, rfl⟩
      refine bs_astore (pc' := 13) (lv' := [(0, _), (1, _), (2, _), (3, _), (4, _)]) dX5_checkRead_11 rfl rfl rfl rfl ?_
      refine bs_aload_n (pc' := 14) dX5_checkRead_13 rfl rfl rfl ?_
      refine bs_ifnull (pc' := 17) dX5_checkRead_14 rfl ?_
      refine bs_aload (pc' := 19) dX5_checkRead_17 rfl rfl rfl ?_
      refine bs_ifnonnull (tgt := 29) dX5_checkRead_19 rfl ?_
      refine bs_aload_n (pc' := 30) dX5_checkRead_29 rfl rfl rfl ?_
      refine bs_getf (pc' := 33) kf_X5_83 dX5_checkRead_30 (R.P hj) rfl rfl ?_
      refine bs_getf (pc' := 36) kf_X5_87 dX5_checkRead_33 (R.O ha) rfl rfl ?_
      refine bs_if_eq (tgt := 43) (pc' := 39) dX5_checkRead_36 rfl rfl (fun c36 => absurd c36 hf) (fun _ => ?_)
      refine bs_iconst (v := 3) (pc' := 40) dX5_checkRead_39 (by decide) rfl ?_
      refine bs_goto (tgt := 53) dX5_checkRead_40 rfl ?_
      exact bs_iret dX5_checkRead_53 rfl ⟨rfl, β, κ, rfl, P, R, S⟩
theorem p_checkWrite (C : CR G h0 m ψ B σ h) (h16 : σ 16 0 = 0) : bs_Sp G mX5_checkWrite 3 0 0 [.ref m, .int p, .int x] h (fun r h' => r = some (.int (s_ckW σ p x).1) ∧ CR G h0 m ψ B (s_ckW σ p x).2 h') := by
  obtain ⟨β, κ, rfl, P, R, S⟩ := C
  rcases pc_cases P p x with hp | ⟨j, rfl, hj, hx⟩ | ⟨j, i, rfl, rfl, hi⟩
  · have ek : s_ckW σ p x = (-2, err σ 0) := by
      unfold s_ckW
      rw [isC_p hp]
      rfl
    rw [ek]
    refine bs_Sp.of (by decide) rfl ?_
    refine bs_aload_n (pc' := 1) dX5_checkWrite_0 rfl rfl rfl ?_
    refine bs_iload_n (pc' := 2) dX5_checkWrite_1 rfl rfl ?_
    refine bs_callV (N := mX5_pointerAt) (pc' := 5) dX5_checkWrite_2 km_X5_75 ko_X5_pointerAt (r_pointerAtN R P hp) R.M rfl rfl rfl (by omega) (Nat.le_refl _) (Nat.le_refl _) rfl ?_
    rintro _ _ ⟨rfl, rfl⟩
    refine bs_astore_n (pc' := 6) (lv' := [(0, _), (1, _), (2, _), (3, _)]) dX5_checkWrite_5 rfl rfl rfl rfl ?_
    refine bs_aload_n (pc' := 7) dX5_checkWrite_6 rfl rfl rfl ?_
    refine bs_iload_n (pc' := 8) dX5_checkWrite_7 rfl rfl ?_
    refine bs_callS (N := mX5_cellThrough) (pc' := 11) dX5_checkWrite_8 km_X5_79 ko_X5_cellThrough r_cellThroughN rfl rfl rfl (by omega) (Nat.le_refl _) (Nat.le_refl _) rfl ?_
    rintro _ _ ⟨rfl, rfl⟩
    refine bs_astore (pc' := 13) (lv' := [(0, _), (1, _), (2, _), (3, _), (4, _)]) dX5_checkWrite_11 rfl rfl rfl rfl ?_
    refine bs_aload_n (pc' := 14) dX5_checkWrite_13 rfl rfl rfl ?_
    refine bs_ifnullN (tgt := 22) dX5_checkWrite_14 rfl ?_
    refine bs_aload_n (pc' := 23) dX5_checkWrite_22 rfl rfl rfl ?_
    refine bs_bipush (v := (-2)) (pc' := 25) dX5_checkWrite_23 (by decide) rfl ?_
    refine bs_callV (N := mX5_counted) (pc' := 28) dX5_checkWrite_25 km_X5_50 ko_X5_counted (c_counted ⟨β, κ, rfl, P, R, S⟩ h16) R.M rfl rfl rfl (by omega) (Nat.le_refl _) (Nat.le_refl _) rfl ?_
    rintro _ h2 ⟨rfl, C2⟩
    exact bs_iret dX5_checkWrite_28 rfl ⟨rfl, C2⟩
  · have ek : s_ckW σ (nI j) x = (-2, err σ 0) := by
      unfold s_ckW
      rw [isC_c P hj hx]
      rfl
    rw [ek]
    refine bs_Sp.of (by decide) rfl ?_
    refine bs_aload_n (pc' := 1) dX5_checkWrite_0 rfl rfl rfl ?_
    refine bs_iload_n (pc' := 2) dX5_checkWrite_1 rfl rfl ?_
    refine bs_callV (N := mX5_pointerAt) (pc' := 5) dX5_checkWrite_2 km_X5_75 ko_X5_pointerAt (r_pointerAt R P hj) R.M rfl rfl rfl (by omega) (Nat.le_refl _) (Nat.le_refl _) rfl ?_
    rintro _ _ ⟨rfl, rfl⟩
    refine bs_astore_n (pc' := 6) (lv' := [(0, _), (1, _), (2, _), (3, _)]) dX5_checkWrite_5 rfl rfl rfl rfl ?_
    refine bs_aload_n (pc' := 7) dX5_checkWrite_6 rfl rfl rfl ?_
    refine bs_iload_n (pc' := 8) dX5_checkWrite_7 rfl rfl ?_
    refine bs_callS (N := mX5_cellThrough) (pc' := 11) dX5_checkWrite_8 km_X5_79 ko_X5_cellThrough (r_cellThroughO R P hj hx) rfl rfl rfl (by omega) (Nat.le_refl _) (Nat.le_refl _) rfl ?_
    rintro _ _ ⟨rfl, rfl⟩
    refine bs_astore (pc' := 13) (lv' := [(0, _), (1, _), (2, _), (3, _), (4, _)]) dX5_checkWrite_11 rfl rfl rfl rfl ?_
    refine bs_aload_n (pc' := 14) dX5_checkWrite_13 rfl rfl rfl ?_
    refine bs_ifnull (pc' := 17) dX5_checkWrite_14 rfl ?_
    refine bs_aload (pc' := 19) dX5_checkWrite_17 rfl rfl rfl ?_
    refine bs_ifnonnullN (pc' := 22) dX5_checkWrite_19 rfl ?_
    refine bs_aload_n (pc' := 23) dX5_checkWrite_22 rfl rfl rfl ?_
    refine bs_bipush (v := (-2)) (pc' := 25) dX5_checkWrite_23 (by decide) rfl ?_
    refine bs_callV (N := mX5_counted) (pc' := 28) dX5_checkWrite_25 km_X5_50 ko_X5_counted (c_counted ⟨β, κ, rfl, P, R, S⟩ h16) R.M rfl rfl rfl (by omega) (Nat.le_refl _) (Nat.le_refl _) rfl ?_
    rintro _ h2 ⟨rfl, C2⟩
    exact bs_iret dX5_checkWrite_28 rfl ⟨rfl, C2⟩
  · have hj := hi.1
    have ha := (P.inv.ow hj).2
    have hc := P.isL hi
    have h60 := P.inv.p60 hj
    have h8 := (P.inv.cell hi).1
    have ek : s_ckW σ (nI j) (nI i) = (wrK σ j i, σ) := by
      unfold s_ckW
      rw [isC_nI P.inv hi, if_pos rfl, zN_nI (by omega), zN_nI (by omega)]
    rw [ek]
    by_cases hf : σ 2 (zN (σ 9 j)) = 0
    · have eK : wrK σ j i = wrW σ (cO σ j i) (nI j) := by rw [wrK_W, if_neg (fun z => z hf)]
      rw [eK]
      refine bs_Sp.of (by decide) rfl ?_
      refine bs_aload_n (pc' := 1) dX5_checkWrite_0 rfl rfl rfl ?_
      refine bs_iload_n (pc' := 2) dX5_checkWrite_1 rfl rfl ?_
      refine bs_callV (N := mX5_pointerAt) (pc' := 5) dX5_checkWrite_2 km_X5_75 ko_X5_pointerAt (r_pointerAt R P hj) R.M rfl rfl rfl (by omega) (Nat.le_refl _) (Nat.le_refl _) rfl ?_
      rintro _ _ ⟨rfl, rfl⟩
      refine bs_astore_n (pc' := 6) (lv' := [(0, _), (1, _), (2, _), (3, _)]) dX5_checkWrite_5 rfl rfl rfl rfl ?_
      refine bs_aload_n (pc' := 7) dX5_checkWrite_6 rfl rfl rfl ?_
      refine bs_iload_n (pc' := 8) dX5_checkWrite_7 rfl rfl ?_
      refine bs_callS (N := mX5_cellThrough) (pc' := 11) dX5_checkWrite_8 km_X5_79 ko_X5_cellThrough (r_cellThrough R P hi) rfl rfl rfl (by omega) (Nat.le_refl _) (Nat.le_refl _) rfl ?_
      rintro _ _ ⟨rfl, rfl⟩
      refine bs_astore (pc' := 13) (lv' := [(0, _), (1, _), (2, _), (3, _), (4, _)]) dX5_checkWrite_11 rfl rfl rfl rfl ?_
      refine bs_aload_n (pc' := 14) dX5_checkWrite_13 rfl rfl rfl ?_
      refine bs_ifnull (pc' := 17) dX5_checkWrite_14 rfl ?_
      refine bs_aload (pc' := 19) dX5_checkWrite_17 rfl rfl rfl ?_
      refine bs_ifnonnull (tgt := 29) dX5_checkWrite_19 rfl ?_
      refine bs_aload_n (pc' := 30) dX5_checkWrite_29 rfl rfl rfl ?_
      refine bs_getf (pc' := 33) kf_X5_83 dX5_checkWrite_30 (R.P hj) rfl rfl ?_
      refine bs_getf (pc' := 36) kf_X5_87 dX5_checkWrite_33 (R.O ha) rfl rfl ?_
      refine bs_if_eq (tgt := 43) (pc' := 39) dX5_checkWrite_36 rfl rfl (fun _ => ?_) (fun c36 => absurd hf c36)
      refine bs_aload (pc' := 45) dX5_checkWrite_43 rfl rfl rfl ?_
      refine bs_iload_n (pc' := 46) dX5_checkWrite_45 rfl rfl ?_
      refine bs_aload_n (pc' := 47) dX5_checkWrite_46 rfl rfl rfl ?_
      refine bs_getf (pc' := 50) kf_X5_24 dX5_checkWrite_47 R.M rfl rfl ?_
      refine bs_callV (N := mX2_writeViolation) (pc' := 53) dX5_checkWrite_50 km_X5_97 ko_X2_writeViolation (rc_writeViolation R P hc) (R.E hc) rfl rfl rfl (by omega) (Nat.le_refl _) (Nat.le_refl _) rfl ?_
      rintro _ _ ⟨rfl, rfl⟩
      exact bs_iret dX5_checkWrite_53 rfl ⟨rfl, β, κ, rfl, P, R, S⟩
    · have eK : wrK σ j i = 3 := by rw [wrK_W, if_pos hf]
      rw [eK]
      refine bs_Sp.of (by decide) rfl ?_
      refine bs_aload_n (pc' := 1) dX5_checkWrite_0 rfl rfl rfl ?_
      refine bs_iload_n (pc' := 2) dX5_checkWrite_1 rfl rfl ?_
      refine bs_callV (N := mX5_pointerAt) (pc' := 5) dX5_checkWrite_2 km_X5_75 ko_X5_pointerAt (r_pointerAt R P hj) R.M rfl rfl rfl (by omega) (Nat.le_refl _) (Nat.le_refl _) rfl ?_
      rintro _ _ ⟨rfl, rfl⟩
      refine bs_astore_n (pc' := 6) (lv' := [(0, _), (1, _), (2, _), (3, _)]) dX5_checkWrite_5 rfl rfl rfl rfl ?_
      refine bs_aload_n (pc' := 7) dX5_checkWrite_6 rfl rfl rfl ?_
      refine bs_iload_n (pc' := 8) dX5_checkWrite_7 rfl rfl ?_
      refine bs_callS (N := mX5_cellThrough) (pc' := 11) dX5_checkWrite_8 km_X5_79 ko_X5_cellThrough (r_cellThrough R P hi) rfl rfl rfl (by omega) (Nat.le_refl _) (Nat.le_refl _) rfl ?_
      rintro _ _ ⟨rfl, rfl⟩
      refine bs_astore (pc' := 13) (lv' := [(0, _), (1, _), (2, _), (3, _), (4, _)]) dX5_checkWrite_11 rfl rfl rfl rfl ?_
      refine bs_aload_n (pc' := 14) dX5_checkWrite_13 rfl rfl rfl ?_
      refine bs_ifnull (pc' := 17) dX5_checkWrite_14 rfl ?_
      refine bs_aload (pc' := 19) dX5_checkWrite_17 rfl rfl rfl ?_
      refine bs_ifnonnull (tgt := 29) dX5_checkWrite_19 rfl ?_
      refine bs_aload_n (pc' := 30) dX5_checkWrite_29 rfl rfl rfl ?_
      refine bs_getf (pc' := 33) kf_X5_83 dX5_checkWrite_30 (R.P hj) rfl rfl ?_
      refine bs_getf (pc' := 36) kf_X5_87 dX5_checkWrite_33 (R.O ha) rfl rfl ?_
      refine bs_if_eq (tgt := 43) (pc' := 39) dX5_checkWrite_36 rfl rfl (fun c36 => absurd c36 hf) (fun _ => ?_)
      refine bs_iconst (v := 3) (pc' := 40) dX5_checkWrite_39 (by decide) rfl ?_
      refine bs_goto (tgt := 53) dX5_checkWrite_40 rfl ?_
      exact bs_iret dX5_checkWrite_53 rfl ⟨rfl, β, κ, rfl, P, R, S⟩
theorem p_removedByWrite (C : CR G h0 m ψ B σ h) (h16 : σ 16 0 = 0) : bs_Sp G mX5_removedByWrite 3 0 0 [.ref m, .int p, .int x] h (fun r h' => r = some (.int (s_rmv σ p x).1) ∧ CR G h0 m ψ B (s_rmv σ p x).2 h') := by
  obtain ⟨β, κ, rfl, P, R, S⟩ := C
  rcases pc_cases P p x with hp | ⟨j, rfl, hj, hx⟩ | ⟨j, i, rfl, rfl, hi⟩
  · have ek : s_rmv σ p x = (-2, err σ 0) := by
      unfold s_rmv
      rw [isC_p hp]
      rfl
    rw [ek]
    refine bs_Sp.of (by decide) rfl ?_
    refine bs_aload_n (pc' := 1) dX5_removedByWrite_0 rfl rfl rfl ?_
    refine bs_iload_n (pc' := 2) dX5_removedByWrite_1 rfl rfl ?_
    refine bs_callV (N := mX5_pointerAt) (pc' := 5) dX5_removedByWrite_2 km_X5_75 ko_X5_pointerAt (r_pointerAtN R P hp) R.M rfl rfl rfl (by omega) (Nat.le_refl _) (Nat.le_refl _) rfl ?_
    rintro _ _ ⟨rfl, rfl⟩
    refine bs_astore_n (pc' := 6) (lv' := [(0, _), (1, _), (2, _), (3, _)]) dX5_removedByWrite_5 rfl rfl rfl rfl ?_
    refine bs_aload_n (pc' := 7) dX5_removedByWrite_6 rfl rfl rfl ?_
    refine bs_iload_n (pc' := 8) dX5_removedByWrite_7 rfl rfl ?_
    refine bs_callS (N := mX5_cellThrough) (pc' := 11) dX5_removedByWrite_8 km_X5_79 ko_X5_cellThrough r_cellThroughN rfl rfl rfl (by omega) (Nat.le_refl _) (Nat.le_refl _) rfl ?_
    rintro _ _ ⟨rfl, rfl⟩
    refine bs_astore (pc' := 13) (lv' := [(0, _), (1, _), (2, _), (3, _), (4, _)]) dX5_removedByWrite_11 rfl rfl rfl rfl ?_
    refine bs_aload_n (pc' := 14) dX5_removedByWrite_13 rfl rfl rfl ?_
    refine bs_ifnullN (tgt := 22) dX5_removedByWrite_14 rfl ?_
    refine bs_aload_n (pc' := 23) dX5_removedByWrite_22 rfl rfl rfl ?_
    refine bs_bipush (v := (-2)) (pc' := 25) dX5_removedByWrite_23 (by decide) rfl ?_
    refine bs_callV (N := mX5_counted) (pc' := 28) dX5_removedByWrite_25 km_X5_50 ko_X5_counted (c_counted ⟨β, κ, rfl, P, R, S⟩ h16) R.M rfl rfl rfl (by omega) (Nat.le_refl _) (Nat.le_refl _) rfl ?_
    rintro _ h2 ⟨rfl, C2⟩
    exact bs_iret dX5_removedByWrite_28 rfl ⟨rfl, C2⟩
  · have ek : s_rmv σ (nI j) x = (-2, err σ 0) := by
      unfold s_rmv
      rw [isC_c P hj hx]
      rfl
    rw [ek]
    refine bs_Sp.of (by decide) rfl ?_
    refine bs_aload_n (pc' := 1) dX5_removedByWrite_0 rfl rfl rfl ?_
    refine bs_iload_n (pc' := 2) dX5_removedByWrite_1 rfl rfl ?_
    refine bs_callV (N := mX5_pointerAt) (pc' := 5) dX5_removedByWrite_2 km_X5_75 ko_X5_pointerAt (r_pointerAt R P hj) R.M rfl rfl rfl (by omega) (Nat.le_refl _) (Nat.le_refl _) rfl ?_
    rintro _ _ ⟨rfl, rfl⟩
    refine bs_astore_n (pc' := 6) (lv' := [(0, _), (1, _), (2, _), (3, _)]) dX5_removedByWrite_5 rfl rfl rfl rfl ?_
    refine bs_aload_n (pc' := 7) dX5_removedByWrite_6 rfl rfl rfl ?_
    refine bs_iload_n (pc' := 8) dX5_removedByWrite_7 rfl rfl ?_
    refine bs_callS (N := mX5_cellThrough) (pc' := 11) dX5_removedByWrite_8 km_X5_79 ko_X5_cellThrough (r_cellThroughO R P hj hx) rfl rfl rfl (by omega) (Nat.le_refl _) (Nat.le_refl _) rfl ?_
    rintro _ _ ⟨rfl, rfl⟩
    refine bs_astore (pc' := 13) (lv' := [(0, _), (1, _), (2, _), (3, _), (4, _)]) dX5_removedByWrite_11 rfl rfl rfl rfl ?_
    refine bs_aload_n (pc' := 14) dX5_removedByWrite_13 rfl rfl rfl ?_
    refine bs_ifnull (pc' := 17) dX5_removedByWrite_14 rfl ?_
    refine bs_aload (pc' := 19) dX5_removedByWrite_17 rfl rfl rfl ?_
    refine bs_ifnonnullN (pc' := 22) dX5_removedByWrite_19 rfl ?_
    refine bs_aload_n (pc' := 23) dX5_removedByWrite_22 rfl rfl rfl ?_
    refine bs_bipush (v := (-2)) (pc' := 25) dX5_removedByWrite_23 (by decide) rfl ?_
    refine bs_callV (N := mX5_counted) (pc' := 28) dX5_removedByWrite_25 km_X5_50 ko_X5_counted (c_counted ⟨β, κ, rfl, P, R, S⟩ h16) R.M rfl rfl rfl (by omega) (Nat.le_refl _) (Nat.le_refl _) rfl ?_
    rintro _ h2 ⟨rfl, C2⟩
    exact bs_iret dX5_removedByWrite_28 rfl ⟨rfl, C2⟩
  · have hj := hi.1
    have ha := (P.inv.ow hj).2
    have hc := P.isL hi
    have h60 := P.inv.p60 hj
    have h8 := (P.inv.cell hi).1
    have ek : s_rmv σ (nI j) (nI i) = (if wrK σ j i = 0 then (match gr σ (cO σ j i) (nI j) true with
        | some k => (σ 4 (cO σ j i) - nI (ab σ (cO σ j i) k), σ)
        | none => (-1, σ)) else (-1, σ)) := by
      unfold s_rmv
      rw [isC_nI P.inv hi, if_pos rfl, zN_nI (by omega), zN_nI (by omega)]
      split
      · cases gr σ (cO σ j i) (nI j) true <;> rfl
      · rfl
    rw [ek]
    by_cases hf : σ 2 (zN (σ 9 j)) = 0
    · have eK : wrK σ j i = wrW σ (cO σ j i) (nI j) := by rw [wrK_W, if_neg (fun z => z hf)]
      rw [eK]
      refine bs_Sp.of (by decide) rfl ?_
      refine bs_aload_n (pc' := 1) dX5_removedByWrite_0 rfl rfl rfl ?_
      refine bs_iload_n (pc' := 2) dX5_removedByWrite_1 rfl rfl ?_
      refine bs_callV (N := mX5_pointerAt) (pc' := 5) dX5_removedByWrite_2 km_X5_75 ko_X5_pointerAt (r_pointerAt R P hj) R.M rfl rfl rfl (by omega) (Nat.le_refl _) (Nat.le_refl _) rfl ?_
      rintro _ _ ⟨rfl, rfl⟩
      refine bs_astore_n (pc' := 6) (lv' := [(0, _), (1, _), (2, _), (3, _)]) dX5_removedByWrite_5 rfl rfl rfl rfl ?_
      refine bs_aload_n (pc' := 7) dX5_removedByWrite_6 rfl rfl rfl ?_
      refine bs_iload_n (pc' := 8) dX5_removedByWrite_7 rfl rfl ?_
      refine bs_callS (N := mX5_cellThrough) (pc' := 11) dX5_removedByWrite_8 km_X5_79 ko_X5_cellThrough (r_cellThrough R P hi) rfl rfl rfl (by omega) (Nat.le_refl _) (Nat.le_refl _) rfl ?_
      rintro _ _ ⟨rfl, rfl⟩
      refine bs_astore (pc' := 13) (lv' := [(0, _), (1, _), (2, _), (3, _), (4, _)]) dX5_removedByWrite_11 rfl rfl rfl rfl ?_
      refine bs_aload_n (pc' := 14) dX5_removedByWrite_13 rfl rfl rfl ?_
      refine bs_ifnull (pc' := 17) dX5_removedByWrite_14 rfl ?_
      refine bs_aload (pc' := 19) dX5_removedByWrite_17 rfl rfl rfl ?_
      refine bs_ifnonnull (tgt := 29) dX5_removedByWrite_19 rfl ?_
      refine bs_aload_n (pc' := 30) dX5_removedByWrite_29 rfl rfl rfl ?_
      refine bs_getf (pc' := 33) kf_X5_83 dX5_removedByWrite_30 (R.P hj) rfl rfl ?_
      refine bs_getf (pc' := 36) kf_X5_87 dX5_removedByWrite_33 (R.O ha) rfl rfl ?_
      refine bs_if_ne (tgt := 52) (pc' := 39) dX5_removedByWrite_36 rfl rfl (fun c36 => absurd hf c36) (fun _ => ?_)
      refine bs_aload (pc' := 41) dX5_removedByWrite_39 rfl rfl rfl ?_
      refine bs_iload_n (pc' := 42) dX5_removedByWrite_41 rfl rfl ?_
      refine bs_aload_n (pc' := 43) dX5_removedByWrite_42 rfl rfl rfl ?_
      refine bs_getf (pc' := 46) kf_X5_24 dX5_removedByWrite_43 R.M rfl rfl ?_
      refine bs_callV (N := mX2_writeViolation) (pc' := 49) dX5_removedByWrite_46 km_X5_97 ko_X2_writeViolation (rc_writeViolation R P hc) (R.E hc) rfl rfl rfl (by omega) (Nat.le_refl _) (Nat.le_refl _) rfl ?_
      rintro _ _ ⟨rfl, rfl⟩
      refine bs_if_eq (tgt := 54) (pc' := 52) dX5_removedByWrite_49 rfl rfl (fun c49 => ?_) (fun c49 => ?_)
      · obtain ⟨g, hg⟩ := wrW_0 c49
        have hk : kpW σ (cO σ j i) (nI j) = ab σ (cO σ j i) g := by unfold kpW; rw [hg]
        refine bs_aload (pc' := 56) dX5_removedByWrite_54 rfl rfl rfl ?_
        refine bs_getf (pc' := 59) kf_X5_103 dX5_removedByWrite_56 (R.E hc) rfl rfl ?_
        refine bs_aload (pc' := 61) dX5_removedByWrite_59 rfl rfl rfl ?_
        refine bs_iload_n (pc' := 62) dX5_removedByWrite_61 rfl rfl ?_
        refine bs_callV (N := mX2_keptByWrite) (pc' := 65) dX5_removedByWrite_62 km_X5_106 ko_X2_keptByWrite (rc_keptByWrite R P hc) (R.E hc) rfl rfl rfl (by omega) (Nat.le_refl _) (Nat.le_refl _) rfl ?_
        rintro _ _ ⟨rfl, rfl⟩
        refine bs_isub (pc' := 66) dX5_removedByWrite_65 rfl ?_
        exact bs_iret dX5_removedByWrite_66 rfl ⟨by rw [if_pos c49, hg, hk], by rw [if_pos c49, hg]; exact ⟨β, κ, rfl, P, R, S⟩⟩
      · refine bs_iconst (v := (-1)) (pc' := 53) dX5_removedByWrite_52 (by decide) rfl ?_
        exact bs_iret dX5_removedByWrite_53 rfl ⟨by rw [if_neg c49], by rw [if_neg c49]; exact ⟨β, κ, rfl, P, R, S⟩⟩
    · have eK : wrK σ j i = 3 := by rw [wrK_W, if_pos hf]
      rw [eK, if_neg (by decide)]
      refine bs_Sp.of (by decide) rfl ?_
      refine bs_aload_n (pc' := 1) dX5_removedByWrite_0 rfl rfl rfl ?_
      refine bs_iload_n (pc' := 2) dX5_removedByWrite_1 rfl rfl ?_
      refine bs_callV (N := mX5_pointerAt) (pc' := 5) dX5_removedByWrite_2 km_X5_75 ko_X5_pointerAt (r_pointerAt R P hj) R.M rfl rfl rfl (by omega) (Nat.le_refl _) (Nat.le_refl _) rfl ?_
      rintro _ _ ⟨rfl, rfl⟩
      refine bs_astore_n (pc' := 6) (lv' := [(0, _), (1, _), (2, _), (3, _)]) dX5_removedByWrite_5 rfl rfl rfl rfl ?_
      refine bs_aload_n (pc' := 7) dX5_removedByWrite_6 rfl rfl rfl ?_
      refine bs_iload_n (pc' := 8) dX5_removedByWrite_7 rfl rfl ?_
      refine bs_callS (N := mX5_cellThrough) (pc' := 11) dX5_removedByWrite_8 km_X5_79 ko_X5_cellThrough (r_cellThrough R P hi) rfl rfl rfl (by omega) (Nat.le_refl _) (Nat.le_refl _) rfl ?_
      rintro _ _ ⟨rfl, rfl⟩
      refine bs_astore (pc' := 13) (lv' := [(0, _), (1, _), (2, _), (3, _), (4, _)]) dX5_removedByWrite_11 rfl rfl rfl rfl ?_
      refine bs_aload_n (pc' := 14) dX5_removedByWrite_13 rfl rfl rfl ?_
      refine bs_ifnull (pc' := 17) dX5_removedByWrite_14 rfl ?_
      refine bs_aload (pc' := 19) dX5_removedByWrite_17 rfl rfl rfl ?_
      refine bs_ifnonnull (tgt := 29) dX5_removedByWrite_19 rfl ?_
      refine bs_aload_n (pc' := 30) dX5_removedByWrite_29 rfl rfl rfl ?_
      refine bs_getf (pc' := 33) kf_X5_83 dX5_removedByWrite_30 (R.P hj) rfl rfl ?_
      refine bs_getf (pc' := 36) kf_X5_87 dX5_removedByWrite_33 (R.O ha) rfl rfl ?_
      refine bs_if_ne (tgt := 52) (pc' := 39) dX5_removedByWrite_36 rfl rfl (fun _ => ?_) (fun c36 => absurd c36 hf)
      refine bs_iconst (v := (-1)) (pc' := 53) dX5_removedByWrite_52 (by decide) rfl ?_
      exact bs_iret dX5_removedByWrite_53 rfl ⟨rfl, β, κ, rfl, P, R, S⟩
theorem p_checkFree (C : CR G h0 m ψ B σ h) (h16 : σ 16 0 = 0) : bs_Sp G mX5_checkFree 4 0 0 [.ref m, .int p] h (fun r h' => r = some (.int (s_ckF σ p).1) ∧ CR G h0 m ψ B (s_ckF σ p).2 h') := by
  obtain ⟨β, κ, rfl, P, R, S⟩ := C
  have h60 := P.inv.nP.2
  by_cases hp : inb p (zN (σ 8 0)) = true
  · obtain ⟨j, hj, rfl⟩ := inb_t (by omega) hp
    have ha := (P.inv.ow hj).2
    have h8 := (P.inv.cl ha).1.2
    have h1 := (P.inv.cl ha).2
    have ek : s_ckF σ (nI j) = match fsV (frK σ j) (zN (σ 1 (zN (σ 9 j)))) 0 with
      | some i => (frK σ j i, σ)
      | none => (0, σ) := by
      unfold s_ckF
      rw [if_pos hp, zN_nI (by omega)]
      cases fsV (frK σ j) (zN (σ 1 (zN (σ 9 j)))) 0 <;> rfl
    rw [ek]
    by_cases hf : σ 2 (zN (σ 9 j)) = 0
    · have eK : frK σ j = fun i => frW σ (8 * zN (σ 9 j) + i) (nI j) := by
        funext i
        rw [frK_W, if_neg (fun z => z hf)]
        rfl
      rw [eK]
      cases hv : fsV (fun i => frW σ (8 * zN (σ 9 j) + i) (nI j)) (zN (σ 1 (zN (σ 9 j)))) 0 with
      | none =>
        refine bs_Sp.of (by decide) rfl ?_
        refine bs_aload_n (pc' := 1) dX5_checkFree_0 rfl rfl rfl ?_
        refine bs_iload_n (pc' := 2) dX5_checkFree_1 rfl rfl ?_
        refine bs_callV (N := mX5_pointerAt) (pc' := 5) dX5_checkFree_2 km_X5_75 ko_X5_pointerAt (r_pointerAt R P hj) R.M rfl rfl rfl (by omega) (Nat.le_refl _) (Nat.le_refl _) rfl ?_
        rintro _ _ ⟨rfl, rfl⟩
        refine bs_astore_n (pc' := 6) (lv' := [(0, _), (1, _), (2, _)]) dX5_checkFree_5 rfl rfl rfl rfl ?_
        refine bs_aload_n (pc' := 7) dX5_checkFree_6 rfl rfl rfl ?_
        refine bs_ifnonnull (tgt := 17) dX5_checkFree_7 rfl ?_
        refine bs_aload_n (pc' := 18) dX5_checkFree_17 rfl rfl rfl ?_
        refine bs_getf (pc' := 21) kf_X5_83 dX5_checkFree_18 (R.P hj) rfl rfl ?_
        refine bs_getf (pc' := 24) kf_X5_87 dX5_checkFree_21 (R.O ha) rfl rfl ?_
        refine bs_if_eq (tgt := 31) (pc' := 27) dX5_checkFree_24 rfl rfl (fun _ => ?_) (fun c24 => absurd hf c24)
        refine bs_aload_n (pc' := 32) dX5_checkFree_31 rfl rfl rfl ?_
        refine bs_getf (pc' := 35) kf_X5_83 dX5_checkFree_32 (R.P hj) rfl rfl ?_
        refine bs_iload_n (pc' := 36) dX5_checkFree_35 rfl rfl ?_
        refine bs_aload_n (pc' := 37) dX5_checkFree_36 rfl rfl rfl ?_
        refine bs_getf (pc' := 40) kf_X5_24 dX5_checkFree_37 R.M rfl rfl ?_
        refine bs_callV (N := mX0_freeViolation) (pc' := 43) dX5_checkFree_40 km_X5_100 ko_X0_freeViolation (ra_freeViolation R P ha) (R.O ha) rfl rfl rfl (by omega) (Nat.le_refl _) (Nat.le_refl _) rfl ?_
        rintro _ _ ⟨rfl, rfl⟩
        rw [fvV_n hv]
        exact bs_iret dX5_checkFree_43 rfl ⟨rfl, β, κ, rfl, P, R, S⟩
      | some i =>
        refine bs_Sp.of (by decide) rfl ?_
        refine bs_aload_n (pc' := 1) dX5_checkFree_0 rfl rfl rfl ?_
        refine bs_iload_n (pc' := 2) dX5_checkFree_1 rfl rfl ?_
        refine bs_callV (N := mX5_pointerAt) (pc' := 5) dX5_checkFree_2 km_X5_75 ko_X5_pointerAt (r_pointerAt R P hj) R.M rfl rfl rfl (by omega) (Nat.le_refl _) (Nat.le_refl _) rfl ?_
        rintro _ _ ⟨rfl, rfl⟩
        refine bs_astore_n (pc' := 6) (lv' := [(0, _), (1, _), (2, _)]) dX5_checkFree_5 rfl rfl rfl rfl ?_
        refine bs_aload_n (pc' := 7) dX5_checkFree_6 rfl rfl rfl ?_
        refine bs_ifnonnull (tgt := 17) dX5_checkFree_7 rfl ?_
        refine bs_aload_n (pc' := 18) dX5_checkFree_17 rfl rfl rfl ?_
        refine bs_getf (pc' := 21) kf_X5_83 dX5_checkFree_18 (R.P hj) rfl rfl ?_
        refine bs_getf (pc' := 24) kf_X5_87 dX5_checkFree_21 (R.O ha) rfl rfl ?_
        refine bs_if_eq (tgt := 31) (pc' := 27) dX5_checkFree_24 rfl rfl (fun _ => ?_) (fun c24 => absurd hf c24)
        refine bs_aload_n (pc' := 32) dX5_checkFree_31 rfl rfl rfl ?_
        refine bs_getf (pc' := 35) kf_X5_83 dX5_checkFree_32 (R.P hj) rfl rfl ?_
        refine bs_iload_n (pc' := 36) dX5_checkFree_35 rfl rfl ?_
        refine bs_aload_n (pc' := 37) dX5_checkFree_36 rfl rfl rfl ?_
        refine bs_getf (pc' := 40) kf_X5_24 dX5_checkFree_37 R.M rfl rfl ?_
        refine bs_callV (N := mX0_freeViolation) (pc' := 43) dX5_checkFree_40 km_X5_100 ko_X0_freeViolation (ra_freeViolation R P ha) (R.O ha) rfl rfl rfl (by omega) (Nat.le_refl _) (Nat.le_refl _) rfl ?_
        rintro _ _ ⟨rfl, rfl⟩
        rw [fvV_s hv]
        exact bs_iret dX5_checkFree_43 rfl ⟨rfl, β, κ, rfl, P, R, S⟩
    · have e0 : fsV (frK σ j) (zN (σ 1 (zN (σ 9 j)))) 0 = some 0 := by
        obtain ⟨k, hm⟩ : ∃ k, zN (σ 1 (zN (σ 9 j))) = k + 1 := ⟨zN (σ 1 (zN (σ 9 j))) - 1, by omega⟩
        rw [hm, fsV, if_neg]
        rw [frK_W, if_pos hf]
        decide
      rw [e0]
      have e3 : frK σ j 0 = 3 := by rw [frK_W, if_pos hf]
      refine bs_Sp.of (by decide) rfl ?_
      refine bs_aload_n (pc' := 1) dX5_checkFree_0 rfl rfl rfl ?_
      refine bs_iload_n (pc' := 2) dX5_checkFree_1 rfl rfl ?_
      refine bs_callV (N := mX5_pointerAt) (pc' := 5) dX5_checkFree_2 km_X5_75 ko_X5_pointerAt (r_pointerAt R P hj) R.M rfl rfl rfl (by omega) (Nat.le_refl _) (Nat.le_refl _) rfl ?_
      rintro _ _ ⟨rfl, rfl⟩
      refine bs_astore_n (pc' := 6) (lv' := [(0, _), (1, _), (2, _)]) dX5_checkFree_5 rfl rfl rfl rfl ?_
      refine bs_aload_n (pc' := 7) dX5_checkFree_6 rfl rfl rfl ?_
      refine bs_ifnonnull (tgt := 17) dX5_checkFree_7 rfl ?_
      refine bs_aload_n (pc' := 18) dX5_checkFree_17 rfl rfl rfl ?_
      refine bs_getf (pc' := 21) kf_X5_83 dX5_checkFree_18 (R.P hj) rfl rfl ?_
      refine bs_getf (pc' := 24) kf_X5_87 dX5_checkFree_21 (R.O ha) rfl rfl ?_
      refine bs_if_eq (tgt := 31) (pc' := 27) dX5_checkFree_24 rfl rfl (fun c24 => absurd c24 hf) (fun _ => ?_)
      refine bs_iconst (v := 3) (pc' := 28) dX5_checkFree_27 (by decide) rfl ?_
      refine bs_goto (tgt := 43) dX5_checkFree_28 rfl ?_
      exact bs_iret dX5_checkFree_43 rfl ⟨by show some (Value.int 3) = some (Value.int (frK σ j 0)); rw [e3], β, κ, rfl, P, R, S⟩
  · have ek : s_ckF σ p = (-2, err σ 0) := by
      unfold s_ckF
      rw [if_neg hp]
    rw [ek]
    refine bs_Sp.of (by decide) rfl ?_
    refine bs_aload_n (pc' := 1) dX5_checkFree_0 rfl rfl rfl ?_
    refine bs_iload_n (pc' := 2) dX5_checkFree_1 rfl rfl ?_
    refine bs_callV (N := mX5_pointerAt) (pc' := 5) dX5_checkFree_2 km_X5_75 ko_X5_pointerAt (r_pointerAtN R P (by simpa using hp)) R.M rfl rfl rfl (by omega) (Nat.le_refl _) (Nat.le_refl _) rfl ?_
    rintro _ _ ⟨rfl, rfl⟩
    refine bs_astore_n (pc' := 6) (lv' := [(0, _), (1, _), (2, _)]) dX5_checkFree_5 rfl rfl rfl rfl ?_
    refine bs_aload_n (pc' := 7) dX5_checkFree_6 rfl rfl rfl ?_
    refine bs_ifnonnullN (pc' := 10) dX5_checkFree_7 rfl ?_
    refine bs_aload_n (pc' := 11) dX5_checkFree_10 rfl rfl rfl ?_
    refine bs_bipush (v := (-2)) (pc' := 13) dX5_checkFree_11 (by decide) rfl ?_
    refine bs_callV (N := mX5_counted) (pc' := 16) dX5_checkFree_13 km_X5_50 ko_X5_counted (c_counted ⟨β, κ, rfl, P, R, S⟩ h16) R.M rfl rfl rfl (by omega) (Nat.le_refl _) (Nat.le_refl _) rfl ?_
    rintro _ h2 ⟨rfl, C2⟩
    exact bs_iret dX5_checkFree_16 rfl ⟨rfl, C2⟩
theorem p_stackSize (C : CR G h0 m ψ B σ h) (h16 : σ 16 0 = 0) : bs_Sp G mX5_stackSize 2 0 0 [.ref m, .int p, .int x] h (fun r h' => r = some (.int (s_siz σ p x).1) ∧ CR G h0 m ψ B (s_siz σ p x).2 h') := by
  obtain ⟨β, κ, rfl, P, R, S⟩ := C
  by_cases hA : isA σ p x = true
  · obtain ⟨a, i, rfl, rfl, ha, hi, ha10, hi8⟩ := isA_t P.inv hA
    have hc := oL P ha hi
    have e1 : zN (nI a) = a := zN_nI (by omega)
    have e2 : zN (nI i) = i := zN_nI (by omega)
    have h12 := (P.inv.sz (P.c96 hc).2.1)
    unfold s_siz
    rw [if_pos hA, e1, e2]
    refine bs_Sp.of (by decide) rfl ?_
    refine bs_aload_n (pc' := 1) dX5_stackSize_0 rfl rfl rfl ?_
    refine bs_iload_n (pc' := 2) dX5_stackSize_1 rfl rfl ?_
    refine bs_iload_n (pc' := 3) dX5_stackSize_2 rfl rfl ?_
    refine bs_callV (N := mX5_cellAt) (pc' := 6) dX5_stackSize_3 km_X5_109 ko_X5_cellAt (r_cellAt R P ha hi) R.M rfl rfl rfl (by omega) (Nat.le_refl _) (Nat.le_refl _) rfl ?_
    rintro _ _ ⟨rfl, rfl⟩
    refine bs_astore_n (pc' := 7) (lv' := [(0, _), (1, _), (2, _), (3, _)]) dX5_stackSize_6 rfl rfl rfl rfl ?_
    refine bs_aload_n (pc' := 8) dX5_stackSize_7 rfl rfl rfl ?_
    refine bs_ifnonnull (tgt := 20) dX5_stackSize_8 rfl ?_
    refine bs_aload_n (pc' := 21) dX5_stackSize_20 rfl rfl rfl ?_
    refine bs_getf (pc' := 24) kf_X5_103 dX5_stackSize_21 (R.E hc) rfl rfl ?_
    exact bs_iret dX5_stackSize_24 rfl ⟨rfl, β, κ, rfl, P, R, S⟩
  · have hA' : isA σ p x = false := by simpa using hA
    unfold s_siz
    rw [if_neg hA]
    refine bs_Sp.of (by decide) rfl ?_
    refine bs_aload_n (pc' := 1) dX5_stackSize_0 rfl rfl rfl ?_
    refine bs_iload_n (pc' := 2) dX5_stackSize_1 rfl rfl ?_
    refine bs_iload_n (pc' := 3) dX5_stackSize_2 rfl rfl ?_
    refine bs_callV (N := mX5_cellAt) (pc' := 6) dX5_stackSize_3 km_X5_109 ko_X5_cellAt (r_cellAtN R P hA') R.M rfl rfl rfl (by omega) (Nat.le_refl _) (Nat.le_refl _) rfl ?_
    rintro _ _ ⟨rfl, rfl⟩
    refine bs_astore_n (pc' := 7) (lv' := [(0, _), (1, _), (2, _), (3, _)]) dX5_stackSize_6 rfl rfl rfl rfl ?_
    refine bs_aload_n (pc' := 8) dX5_stackSize_7 rfl rfl rfl ?_
    refine bs_ifnonnullN (pc' := 11) dX5_stackSize_8 rfl ?_
    refine bs_aload_n (pc' := 12) dX5_stackSize_11 rfl rfl rfl ?_
    refine bs_bipush (v := (-2)) (pc' := 14) dX5_stackSize_12 (by decide) rfl ?_
    refine bs_callV (N := mX5_counted) (pc' := 17) dX5_stackSize_14 km_X5_50 ko_X5_counted (c_counted ⟨β, κ, rfl, P, R, S⟩ h16) R.M rfl rfl rfl (by omega) (Nat.le_refl _) (Nat.le_refl _) rfl ?_
    rintro _ h2 ⟨rfl, C2⟩
    refine bs_goto (tgt := 24) dX5_stackSize_17 rfl ?_
    exact bs_iret dX5_stackSize_24 rfl ⟨rfl, C2⟩
theorem p_itemTag (C : CR G h0 m ψ B σ h) (h16 : σ 16 0 = 0) : bs_Sp G mX5_itemTag 2 0 0 [.ref m, .int p, .int x, .int v] h (fun r h' => r = some (.int (s_itm σ 5 p x v).1) ∧ CR G h0 m ψ B (s_itm σ 5 p x v).2 h') := by
  obtain ⟨β, κ, rfl, P, R, S⟩ := C
  by_cases hA : isA σ p x = true
  · obtain ⟨a, i, rfl, rfl, ha, hi, ha10, hi8⟩ := isA_t P.inv hA
    have hc := oL P ha hi
    have e1 : zN (nI a) = a := zN_nI (by omega)
    have e2 : zN (nI i) = i := zN_nI (by omega)
    have h12 := (P.inv.sz (P.c96 hc).2.1)
    have eI : isI σ (nI a) (nI i) v = inb v (zN (σ 4 (8 * a + i))) := by
      unfold isI
      rw [hA, e1, e2, Bool.true_and]
    by_cases hv : inb v (zN (σ 4 (8 * a + i))) = true
    · have hv' := hv
      obtain ⟨k, hk, rfl⟩ := inb_t (by have := h12.2; omega) hv'
      have h12' := h12.2
      have e3 : zN (nI k) = k := zN_nI (by omega)
      have eP : iPl (nI a) (nI i) (nI k) = 12 * (8 * a + i) + k := by
        unfold iPl
        rw [e1, e2, e3]
      unfold s_itm
      rw [eI, if_pos hv, eP]
      refine bs_Sp.of (by decide) rfl ?_
      refine bs_aload_n (pc' := 1) dX5_itemTag_0 rfl rfl rfl ?_
      refine bs_iload_n (pc' := 2) dX5_itemTag_1 rfl rfl ?_
      refine bs_iload_n (pc' := 3) dX5_itemTag_2 rfl rfl ?_
      refine bs_callV (N := mX5_cellAt) (pc' := 6) dX5_itemTag_3 km_X5_109 ko_X5_cellAt (r_cellAt R P ha hi) R.M rfl rfl rfl (by omega) (Nat.le_refl _) (Nat.le_refl _) rfl ?_
      rintro _ _ ⟨rfl, rfl⟩
      refine bs_astore (pc' := 8) (lv' := [(0, _), (1, _), (2, _), (3, _), (4, _)]) dX5_itemTag_6 rfl rfl rfl rfl ?_
      refine bs_aload (pc' := 10) dX5_itemTag_8 rfl rfl rfl ?_
      refine bs_ifnull (pc' := 13) dX5_itemTag_10 rfl ?_
      refine bs_aload (pc' := 15) dX5_itemTag_13 rfl rfl rfl ?_
      refine bs_iload_n (pc' := 16) dX5_itemTag_15 rfl rfl ?_
      refine bs_callV (N := mX2_hasItem) (pc' := 19) dX5_itemTag_16 km_X5_113 ko_X2_hasItem (rc_hasItem R P hc) (R.E hc) rfl rfl rfl (by omega) (Nat.le_refl _) (Nat.le_refl _) rfl ?_
      rintro _ _ ⟨rfl, rfl⟩
      refine bs_if_ne (tgt := 29) (pc' := 22) dX5_itemTag_19 rfl rfl (fun _ => ?_) (fun c19 => absurd c19 (by rw [hv]; decide))
      refine bs_aload (pc' := 31) dX5_itemTag_29 rfl rfl rfl ?_
      refine bs_getf (pc' := 34) kf_X5_117 dX5_itemTag_31 (R.E hc) rfl rfl ?_
      refine bs_iload_n (pc' := 35) dX5_itemTag_34 rfl rfl ?_
      refine bs_ild (pc' := 36) dX5_itemTag_35 (R.e1 hc) k rfl ⟨by omega, by decide⟩ rfl ?_
      exact bs_iret dX5_itemTag_36 rfl ⟨by rw [slc_at (by omega)], β, κ, rfl, P, R, S⟩
    · have hv' : inb v (zN (σ 4 (8 * a + i))) = false := by simpa using hv
      unfold s_itm
      rw [eI, if_neg hv]
      refine bs_Sp.of (by decide) rfl ?_
      refine bs_aload_n (pc' := 1) dX5_itemTag_0 rfl rfl rfl ?_
      refine bs_iload_n (pc' := 2) dX5_itemTag_1 rfl rfl ?_
      refine bs_iload_n (pc' := 3) dX5_itemTag_2 rfl rfl ?_
      refine bs_callV (N := mX5_cellAt) (pc' := 6) dX5_itemTag_3 km_X5_109 ko_X5_cellAt (r_cellAt R P ha hi) R.M rfl rfl rfl (by omega) (Nat.le_refl _) (Nat.le_refl _) rfl ?_
      rintro _ _ ⟨rfl, rfl⟩
      refine bs_astore (pc' := 8) (lv' := [(0, _), (1, _), (2, _), (3, _), (4, _)]) dX5_itemTag_6 rfl rfl rfl rfl ?_
      refine bs_aload (pc' := 10) dX5_itemTag_8 rfl rfl rfl ?_
      refine bs_ifnull (pc' := 13) dX5_itemTag_10 rfl ?_
      refine bs_aload (pc' := 15) dX5_itemTag_13 rfl rfl rfl ?_
      refine bs_iload_n (pc' := 16) dX5_itemTag_15 rfl rfl ?_
      refine bs_callV (N := mX2_hasItem) (pc' := 19) dX5_itemTag_16 km_X5_113 ko_X2_hasItem (rc_hasItem R P hc) (R.E hc) rfl rfl rfl (by omega) (Nat.le_refl _) (Nat.le_refl _) rfl ?_
      rintro _ _ ⟨rfl, rfl⟩
      refine bs_if_ne (tgt := 29) (pc' := 22) dX5_itemTag_19 rfl rfl (fun c19 => absurd (by rw [hv']; rfl) c19) (fun _ => ?_)
      refine bs_aload_n (pc' := 23) dX5_itemTag_22 rfl rfl rfl ?_
      refine bs_bipush (v := (-2)) (pc' := 25) dX5_itemTag_23 (by decide) rfl ?_
      refine bs_callV (N := mX5_counted) (pc' := 28) dX5_itemTag_25 km_X5_50 ko_X5_counted (c_counted ⟨β, κ, rfl, P, R, S⟩ h16) R.M rfl rfl rfl (by omega) (Nat.le_refl _) (Nat.le_refl _) rfl ?_
      rintro _ h2 ⟨rfl, C2⟩
      exact bs_iret dX5_itemTag_28 rfl ⟨rfl, C2⟩
  · have hA' : isA σ p x = false := by simpa using hA
    unfold s_itm isI
    rw [hA', Bool.false_and, if_neg (fun z => Bool.noConfusion (show false = true from z))]
    refine bs_Sp.of (by decide) rfl ?_
    refine bs_aload_n (pc' := 1) dX5_itemTag_0 rfl rfl rfl ?_
    refine bs_iload_n (pc' := 2) dX5_itemTag_1 rfl rfl ?_
    refine bs_iload_n (pc' := 3) dX5_itemTag_2 rfl rfl ?_
    refine bs_callV (N := mX5_cellAt) (pc' := 6) dX5_itemTag_3 km_X5_109 ko_X5_cellAt (r_cellAtN R P hA') R.M rfl rfl rfl (by omega) (Nat.le_refl _) (Nat.le_refl _) rfl ?_
    rintro _ _ ⟨rfl, rfl⟩
    refine bs_astore (pc' := 8) (lv' := [(0, _), (1, _), (2, _), (3, _), (4, _)]) dX5_itemTag_6 rfl rfl rfl rfl ?_
    refine bs_aload (pc' := 10) dX5_itemTag_8 rfl rfl rfl ?_
    refine bs_ifnullN (tgt := 22) dX5_itemTag_10 rfl ?_
    refine bs_aload_n (pc' := 23) dX5_itemTag_22 rfl rfl rfl ?_
    refine bs_bipush (v := (-2)) (pc' := 25) dX5_itemTag_23 (by decide) rfl ?_
    refine bs_callV (N := mX5_counted) (pc' := 28) dX5_itemTag_25 km_X5_50 ko_X5_counted (c_counted ⟨β, κ, rfl, P, R, S⟩ h16) R.M rfl rfl rfl (by omega) (Nat.le_refl _) (Nat.le_refl _) rfl ?_
    rintro _ h2 ⟨rfl, C2⟩
    exact bs_iret dX5_itemTag_28 rfl ⟨rfl, C2⟩
theorem p_itemPermission (C : CR G h0 m ψ B σ h) (h16 : σ 16 0 = 0) : bs_Sp G mX5_itemPermission 2 0 0 [.ref m, .int p, .int x, .int v] h (fun r h' => r = some (.int (s_itm σ 6 p x v).1) ∧ CR G h0 m ψ B (s_itm σ 6 p x v).2 h') := by
  obtain ⟨β, κ, rfl, P, R, S⟩ := C
  by_cases hA : isA σ p x = true
  · obtain ⟨a, i, rfl, rfl, ha, hi, ha10, hi8⟩ := isA_t P.inv hA
    have hc := oL P ha hi
    have e1 : zN (nI a) = a := zN_nI (by omega)
    have e2 : zN (nI i) = i := zN_nI (by omega)
    have h12 := (P.inv.sz (P.c96 hc).2.1)
    have eI : isI σ (nI a) (nI i) v = inb v (zN (σ 4 (8 * a + i))) := by
      unfold isI
      rw [hA, e1, e2, Bool.true_and]
    by_cases hv : inb v (zN (σ 4 (8 * a + i))) = true
    · have hv' := hv
      obtain ⟨k, hk, rfl⟩ := inb_t (by have := h12.2; omega) hv'
      have h12' := h12.2
      have e3 : zN (nI k) = k := zN_nI (by omega)
      have eP : iPl (nI a) (nI i) (nI k) = 12 * (8 * a + i) + k := by
        unfold iPl
        rw [e1, e2, e3]
      unfold s_itm
      rw [eI, if_pos hv, eP]
      refine bs_Sp.of (by decide) rfl ?_
      refine bs_aload_n (pc' := 1) dX5_itemPermission_0 rfl rfl rfl ?_
      refine bs_iload_n (pc' := 2) dX5_itemPermission_1 rfl rfl ?_
      refine bs_iload_n (pc' := 3) dX5_itemPermission_2 rfl rfl ?_
      refine bs_callV (N := mX5_cellAt) (pc' := 6) dX5_itemPermission_3 km_X5_109 ko_X5_cellAt (r_cellAt R P ha hi) R.M rfl rfl rfl (by omega) (Nat.le_refl _) (Nat.le_refl _) rfl ?_
      rintro _ _ ⟨rfl, rfl⟩
      refine bs_astore (pc' := 8) (lv' := [(0, _), (1, _), (2, _), (3, _), (4, _)]) dX5_itemPermission_6 rfl rfl rfl rfl ?_
      refine bs_aload (pc' := 10) dX5_itemPermission_8 rfl rfl rfl ?_
      refine bs_ifnull (pc' := 13) dX5_itemPermission_10 rfl ?_
      refine bs_aload (pc' := 15) dX5_itemPermission_13 rfl rfl rfl ?_
      refine bs_iload_n (pc' := 16) dX5_itemPermission_15 rfl rfl ?_
      refine bs_callV (N := mX2_hasItem) (pc' := 19) dX5_itemPermission_16 km_X5_113 ko_X2_hasItem (rc_hasItem R P hc) (R.E hc) rfl rfl rfl (by omega) (Nat.le_refl _) (Nat.le_refl _) rfl ?_
      rintro _ _ ⟨rfl, rfl⟩
      refine bs_if_ne (tgt := 29) (pc' := 22) dX5_itemPermission_19 rfl rfl (fun _ => ?_) (fun c19 => absurd c19 (by rw [hv]; decide))
      refine bs_aload (pc' := 31) dX5_itemPermission_29 rfl rfl rfl ?_
      refine bs_getf (pc' := 34) kf_X5_120 dX5_itemPermission_31 (R.E hc) rfl rfl ?_
      refine bs_iload_n (pc' := 35) dX5_itemPermission_34 rfl rfl ?_
      refine bs_ild (pc' := 36) dX5_itemPermission_35 (R.e2 hc) k rfl ⟨by omega, by decide⟩ rfl ?_
      exact bs_iret dX5_itemPermission_36 rfl ⟨by rw [slc_at (by omega)], β, κ, rfl, P, R, S⟩
    · have hv' : inb v (zN (σ 4 (8 * a + i))) = false := by simpa using hv
      unfold s_itm
      rw [eI, if_neg hv]
      refine bs_Sp.of (by decide) rfl ?_
      refine bs_aload_n (pc' := 1) dX5_itemPermission_0 rfl rfl rfl ?_
      refine bs_iload_n (pc' := 2) dX5_itemPermission_1 rfl rfl ?_
      refine bs_iload_n (pc' := 3) dX5_itemPermission_2 rfl rfl ?_
      refine bs_callV (N := mX5_cellAt) (pc' := 6) dX5_itemPermission_3 km_X5_109 ko_X5_cellAt (r_cellAt R P ha hi) R.M rfl rfl rfl (by omega) (Nat.le_refl _) (Nat.le_refl _) rfl ?_
      rintro _ _ ⟨rfl, rfl⟩
      refine bs_astore (pc' := 8) (lv' := [(0, _), (1, _), (2, _), (3, _), (4, _)]) dX5_itemPermission_6 rfl rfl rfl rfl ?_
      refine bs_aload (pc' := 10) dX5_itemPermission_8 rfl rfl rfl ?_
      refine bs_ifnull (pc' := 13) dX5_itemPermission_10 rfl ?_
      refine bs_aload (pc' := 15) dX5_itemPermission_13 rfl rfl rfl ?_
      refine bs_iload_n (pc' := 16) dX5_itemPermission_15 rfl rfl ?_
      refine bs_callV (N := mX2_hasItem) (pc' := 19) dX5_itemPermission_16 km_X5_113 ko_X2_hasItem (rc_hasItem R P hc) (R.E hc) rfl rfl rfl (by omega) (Nat.le_refl _) (Nat.le_refl _) rfl ?_
      rintro _ _ ⟨rfl, rfl⟩
      refine bs_if_ne (tgt := 29) (pc' := 22) dX5_itemPermission_19 rfl rfl (fun c19 => absurd (by rw [hv']; rfl) c19) (fun _ => ?_)
      refine bs_aload_n (pc' := 23) dX5_itemPermission_22 rfl rfl rfl ?_
      refine bs_bipush (v := (-2)) (pc' := 25) dX5_itemPermission_23 (by decide) rfl ?_
      refine bs_callV (N := mX5_counted) (pc' := 28) dX5_itemPermission_25 km_X5_50 ko_X5_counted (c_counted ⟨β, κ, rfl, P, R, S⟩ h16) R.M rfl rfl rfl (by omega) (Nat.le_refl _) (Nat.le_refl _) rfl ?_
      rintro _ h2 ⟨rfl, C2⟩
      exact bs_iret dX5_itemPermission_28 rfl ⟨rfl, C2⟩
  · have hA' : isA σ p x = false := by simpa using hA
    unfold s_itm isI
    rw [hA', Bool.false_and, if_neg (fun z => Bool.noConfusion (show false = true from z))]
    refine bs_Sp.of (by decide) rfl ?_
    refine bs_aload_n (pc' := 1) dX5_itemPermission_0 rfl rfl rfl ?_
    refine bs_iload_n (pc' := 2) dX5_itemPermission_1 rfl rfl ?_
    refine bs_iload_n (pc' := 3) dX5_itemPermission_2 rfl rfl ?_
    refine bs_callV (N := mX5_cellAt) (pc' := 6) dX5_itemPermission_3 km_X5_109 ko_X5_cellAt (r_cellAtN R P hA') R.M rfl rfl rfl (by omega) (Nat.le_refl _) (Nat.le_refl _) rfl ?_
    rintro _ _ ⟨rfl, rfl⟩
    refine bs_astore (pc' := 8) (lv' := [(0, _), (1, _), (2, _), (3, _), (4, _)]) dX5_itemPermission_6 rfl rfl rfl rfl ?_
    refine bs_aload (pc' := 10) dX5_itemPermission_8 rfl rfl rfl ?_
    refine bs_ifnullN (tgt := 22) dX5_itemPermission_10 rfl ?_
    refine bs_aload_n (pc' := 23) dX5_itemPermission_22 rfl rfl rfl ?_
    refine bs_bipush (v := (-2)) (pc' := 25) dX5_itemPermission_23 (by decide) rfl ?_
    refine bs_callV (N := mX5_counted) (pc' := 28) dX5_itemPermission_25 km_X5_50 ko_X5_counted (c_counted ⟨β, κ, rfl, P, R, S⟩ h16) R.M rfl rfl rfl (by omega) (Nat.le_refl _) (Nat.le_refl _) rfl ?_
    rintro _ h2 ⟨rfl, C2⟩
    exact bs_iret dX5_itemPermission_28 rfl ⟨rfl, C2⟩
theorem p_itemProtected (C : CR G h0 m ψ B σ h) (h16 : σ 16 0 = 0) : bs_Sp G mX5_itemProtected 2 0 0 [.ref m, .int p, .int x, .int v] h (fun r h' => r = some (.int (s_itp σ p x v).1) ∧ CR G h0 m ψ B (s_itp σ p x v).2 h') := by
  obtain ⟨β, κ, rfl, P, R, S⟩ := C
  by_cases hA : isA σ p x = true
  · obtain ⟨a, i, rfl, rfl, ha, hi, ha10, hi8⟩ := isA_t P.inv hA
    have hc := oL P ha hi
    have e1 : zN (nI a) = a := zN_nI (by omega)
    have e2 : zN (nI i) = i := zN_nI (by omega)
    have h12 := (P.inv.sz (P.c96 hc).2.1)
    have eI : isI σ (nI a) (nI i) v = inb v (zN (σ 4 (8 * a + i))) := by
      unfold isI
      rw [hA, e1, e2, Bool.true_and]
    by_cases hv : inb v (zN (σ 4 (8 * a + i))) = true
    · have hv' := hv
      obtain ⟨k, hk, rfl⟩ := inb_t (by have := h12.2; omega) hv'
      have h12' := h12.2
      have e3 : zN (nI k) = k := zN_nI (by omega)
      have eP : iPl (nI a) (nI i) (nI k) = 12 * (8 * a + i) + k := by
        unfold iPl
        rw [e1, e2, e3]
      unfold s_itp
      rw [eI, if_pos hv, eP]
      refine bs_Sp.of (by decide) rfl ?_
      refine bs_aload_n (pc' := 1) dX5_itemProtected_0 rfl rfl rfl ?_
      refine bs_iload_n (pc' := 2) dX5_itemProtected_1 rfl rfl ?_
      refine bs_iload_n (pc' := 3) dX5_itemProtected_2 rfl rfl ?_
      refine bs_callV (N := mX5_cellAt) (pc' := 6) dX5_itemProtected_3 km_X5_109 ko_X5_cellAt (r_cellAt R P ha hi) R.M rfl rfl rfl (by omega) (Nat.le_refl _) (Nat.le_refl _) rfl ?_
      rintro _ _ ⟨rfl, rfl⟩
      refine bs_astore (pc' := 8) (lv' := [(0, _), (1, _), (2, _), (3, _), (4, _)]) dX5_itemProtected_6 rfl rfl rfl rfl ?_
      refine bs_aload (pc' := 10) dX5_itemProtected_8 rfl rfl rfl ?_
      refine bs_ifnull (pc' := 13) dX5_itemProtected_10 rfl ?_
      refine bs_aload (pc' := 15) dX5_itemProtected_13 rfl rfl rfl ?_
      refine bs_iload_n (pc' := 16) dX5_itemProtected_15 rfl rfl ?_
      refine bs_callV (N := mX2_hasItem) (pc' := 19) dX5_itemProtected_16 km_X5_113 ko_X2_hasItem (rc_hasItem R P hc) (R.E hc) rfl rfl rfl (by omega) (Nat.le_refl _) (Nat.le_refl _) rfl ?_
      rintro _ _ ⟨rfl, rfl⟩
      refine bs_if_ne (tgt := 29) (pc' := 22) dX5_itemProtected_19 rfl rfl (fun _ => ?_) (fun c19 => absurd c19 (by rw [hv]; decide))
      refine bs_aload_n (pc' := 30) dX5_itemProtected_29 rfl rfl rfl ?_
      refine bs_getf (pc' := 33) kf_X5_24 dX5_itemProtected_30 R.M rfl rfl ?_
      refine bs_aload (pc' := 35) dX5_itemProtected_33 rfl rfl rfl ?_
      refine bs_getf (pc' := 38) kf_X5_123 dX5_itemProtected_35 (R.E hc) rfl rfl ?_
      refine bs_iload_n (pc' := 39) dX5_itemProtected_38 rfl rfl ?_
      refine bs_ild (pc' := 40) dX5_itemProtected_39 (R.e3 hc) k rfl ⟨by omega, by decide⟩ rfl ?_
      refine bs_callV (N := mX1_isActive) (pc' := 43) dX5_itemProtected_40 km_X5_126 ko_X1_isActive (sc_isActive (R.kE P) P.inv.dp.2) R.C1 rfl rfl rfl (by omega) (Nat.le_refl _) (Nat.le_refl _) rfl ?_
      rintro _ _ ⟨rfl, rfl⟩
      rw [slc_at (by omega), gOK_ac P.inv.dp.2 (P.grd _ (by have := (P.c96 hc).2.2; omega))]
      refine bs_callS (N := mX5_asNumber) (pc' := 46) dX5_itemProtected_43 km_X5_129 ko_X5_asNumber sc_asNumber rfl rfl rfl (by omega) (Nat.le_refl _) (Nat.le_refl _) rfl ?_
      rintro _ _ ⟨rfl, rfl⟩
      exact bs_iret dX5_itemProtected_46 rfl ⟨by rw [bI_d], β, κ, rfl, P, R, S⟩
    · have hv' : inb v (zN (σ 4 (8 * a + i))) = false := by simpa using hv
      unfold s_itp
      rw [eI, if_neg hv]
      refine bs_Sp.of (by decide) rfl ?_
      refine bs_aload_n (pc' := 1) dX5_itemProtected_0 rfl rfl rfl ?_
      refine bs_iload_n (pc' := 2) dX5_itemProtected_1 rfl rfl ?_
      refine bs_iload_n (pc' := 3) dX5_itemProtected_2 rfl rfl ?_
      refine bs_callV (N := mX5_cellAt) (pc' := 6) dX5_itemProtected_3 km_X5_109 ko_X5_cellAt (r_cellAt R P ha hi) R.M rfl rfl rfl (by omega) (Nat.le_refl _) (Nat.le_refl _) rfl ?_
      rintro _ _ ⟨rfl, rfl⟩
      refine bs_astore (pc' := 8) (lv' := [(0, _), (1, _), (2, _), (3, _), (4, _)]) dX5_itemProtected_6 rfl rfl rfl rfl ?_
      refine bs_aload (pc' := 10) dX5_itemProtected_8 rfl rfl rfl ?_
      refine bs_ifnull (pc' := 13) dX5_itemProtected_10 rfl ?_
      refine bs_aload (pc' := 15) dX5_itemProtected_13 rfl rfl rfl ?_
      refine bs_iload_n (pc' := 16) dX5_itemProtected_15 rfl rfl ?_
      refine bs_callV (N := mX2_hasItem) (pc' := 19) dX5_itemProtected_16 km_X5_113 ko_X2_hasItem (rc_hasItem R P hc) (R.E hc) rfl rfl rfl (by omega) (Nat.le_refl _) (Nat.le_refl _) rfl ?_
      rintro _ _ ⟨rfl, rfl⟩
      refine bs_if_ne (tgt := 29) (pc' := 22) dX5_itemProtected_19 rfl rfl (fun c19 => absurd (by rw [hv']; rfl) c19) (fun _ => ?_)
      refine bs_aload_n (pc' := 23) dX5_itemProtected_22 rfl rfl rfl ?_
      refine bs_bipush (v := (-2)) (pc' := 25) dX5_itemProtected_23 (by decide) rfl ?_
      refine bs_callV (N := mX5_counted) (pc' := 28) dX5_itemProtected_25 km_X5_50 ko_X5_counted (c_counted ⟨β, κ, rfl, P, R, S⟩ h16) R.M rfl rfl rfl (by omega) (Nat.le_refl _) (Nat.le_refl _) rfl ?_
      rintro _ h2 ⟨rfl, C2⟩
      exact bs_iret dX5_itemProtected_28 rfl ⟨rfl, C2⟩
  · have hA' : isA σ p x = false := by simpa using hA
    unfold s_itp isI
    rw [hA', Bool.false_and, if_neg (fun z => Bool.noConfusion (show false = true from z))]
    refine bs_Sp.of (by decide) rfl ?_
    refine bs_aload_n (pc' := 1) dX5_itemProtected_0 rfl rfl rfl ?_
    refine bs_iload_n (pc' := 2) dX5_itemProtected_1 rfl rfl ?_
    refine bs_iload_n (pc' := 3) dX5_itemProtected_2 rfl rfl ?_
    refine bs_callV (N := mX5_cellAt) (pc' := 6) dX5_itemProtected_3 km_X5_109 ko_X5_cellAt (r_cellAtN R P hA') R.M rfl rfl rfl (by omega) (Nat.le_refl _) (Nat.le_refl _) rfl ?_
    rintro _ _ ⟨rfl, rfl⟩
    refine bs_astore (pc' := 8) (lv' := [(0, _), (1, _), (2, _), (3, _), (4, _)]) dX5_itemProtected_6 rfl rfl rfl rfl ?_
    refine bs_aload (pc' := 10) dX5_itemProtected_8 rfl rfl rfl ?_
    refine bs_ifnullN (tgt := 22) dX5_itemProtected_10 rfl ?_
    refine bs_aload_n (pc' := 23) dX5_itemProtected_22 rfl rfl rfl ?_
    refine bs_bipush (v := (-2)) (pc' := 25) dX5_itemProtected_23 (by decide) rfl ?_
    refine bs_callV (N := mX5_counted) (pc' := 28) dX5_itemProtected_25 km_X5_50 ko_X5_counted (c_counted ⟨β, κ, rfl, P, R, S⟩ h16) R.M rfl rfl rfl (by omega) (Nat.le_refl _) (Nat.le_refl _) rfl ?_
    rintro _ h2 ⟨rfl, C2⟩
    exact bs_iret dX5_itemProtected_28 rfl ⟨rfl, C2⟩
theorem p_allocationOf (C : CR G h0 m ψ B σ h) (h16 : σ 16 0 = 0) : bs_Sp G mX5_allocationOf 1 0 0 [.ref m, .int p] h (fun r h' => r = some (.int (s_ptr σ 9 p).1) ∧ CR G h0 m ψ B (s_ptr σ 9 p).2 h') := by
  obtain ⟨β, κ, rfl, P, R, S⟩ := C
  have h60 := P.inv.nP.2
  unfold s_ptr
  by_cases hp : inb p (zN (σ 8 0)) = true
  · rw [if_pos hp]
    obtain ⟨j, hj, rfl⟩ := inb_t (by omega) hp
    have ha := (P.inv.ow hj).2
    rw [zN_nI (show j < 2 ^ 31 by omega)]
    refine bs_Sp.of (by decide) rfl ?_
    refine bs_aload_n (pc' := 1) dX5_allocationOf_0 rfl rfl rfl ?_
    refine bs_iload_n (pc' := 2) dX5_allocationOf_1 rfl rfl ?_
    refine bs_callV (N := mX5_pointerAt) (pc' := 5) dX5_allocationOf_2 km_X5_75 ko_X5_pointerAt (r_pointerAt R P hj) R.M rfl rfl rfl (by omega) (Nat.le_refl _) (Nat.le_refl _) rfl ?_
    rintro _ _ ⟨rfl, rfl⟩
    refine bs_astore_n (pc' := 6) (lv' := [(0, _), (1, _), (2, _)]) dX5_allocationOf_5 rfl rfl rfl rfl ?_
    refine bs_aload_n (pc' := 7) dX5_allocationOf_6 rfl rfl rfl ?_
    refine bs_ifnonnull (tgt := 19) dX5_allocationOf_7 rfl ?_
    refine bs_aload_n (pc' := 20) dX5_allocationOf_19 rfl rfl rfl ?_
    refine bs_getf (pc' := 23) kf_X5_83 dX5_allocationOf_20 (R.P hj) rfl rfl ?_
    refine bs_getf (pc' := 26) kf_X5_133 dX5_allocationOf_23 (R.O ha) rfl rfl ?_
    exact bs_iret dX5_allocationOf_26 rfl ⟨by rw [← P.inv.owe hj], β, κ, rfl, P, R, S⟩
  · rw [if_neg hp]
    refine bs_Sp.of (by decide) rfl ?_
    refine bs_aload_n (pc' := 1) dX5_allocationOf_0 rfl rfl rfl ?_
    refine bs_iload_n (pc' := 2) dX5_allocationOf_1 rfl rfl ?_
    refine bs_callV (N := mX5_pointerAt) (pc' := 5) dX5_allocationOf_2 km_X5_75 ko_X5_pointerAt (r_pointerAtN R P (by simpa using hp)) R.M rfl rfl rfl (by omega) (Nat.le_refl _) (Nat.le_refl _) rfl ?_
    rintro _ _ ⟨rfl, rfl⟩
    refine bs_astore_n (pc' := 6) (lv' := [(0, _), (1, _), (2, _)]) dX5_allocationOf_5 rfl rfl rfl rfl ?_
    refine bs_aload_n (pc' := 7) dX5_allocationOf_6 rfl rfl rfl ?_
    refine bs_ifnonnullN (pc' := 10) dX5_allocationOf_7 rfl ?_
    refine bs_aload_n (pc' := 11) dX5_allocationOf_10 rfl rfl rfl ?_
    refine bs_bipush (v := (-2)) (pc' := 13) dX5_allocationOf_11 (by decide) rfl ?_
    refine bs_callV (N := mX5_counted) (pc' := 16) dX5_allocationOf_13 km_X5_50 ko_X5_counted (c_counted ⟨β, κ, rfl, P, R, S⟩ h16) R.M rfl rfl rfl (by omega) (Nat.le_refl _) (Nat.le_refl _) rfl ?_
    rintro _ h2 ⟨rfl, C2⟩
    refine bs_goto (tgt := 26) dX5_allocationOf_16 rfl ?_
    exact bs_iret dX5_allocationOf_26 rfl ⟨rfl, C2⟩
theorem p_parent (C : CR G h0 m ψ B σ h) (h16 : σ 16 0 = 0) : bs_Sp G mX5_parent 1 0 0 [.ref m, .int p] h (fun r h' => r = some (.int (s_ptr σ 10 p).1) ∧ CR G h0 m ψ B (s_ptr σ 10 p).2 h') := by
  obtain ⟨β, κ, rfl, P, R, S⟩ := C
  have h60 := P.inv.nP.2
  unfold s_ptr
  by_cases hp : inb p (zN (σ 8 0)) = true
  · rw [if_pos hp]
    obtain ⟨j, hj, rfl⟩ := inb_t (by omega) hp
    have ha := (P.inv.ow hj).2
    rw [zN_nI (show j < 2 ^ 31 by omega)]
    refine bs_Sp.of (by decide) rfl ?_
    refine bs_aload_n (pc' := 1) dX5_parent_0 rfl rfl rfl ?_
    refine bs_iload_n (pc' := 2) dX5_parent_1 rfl rfl ?_
    refine bs_callV (N := mX5_pointerAt) (pc' := 5) dX5_parent_2 km_X5_75 ko_X5_pointerAt (r_pointerAt R P hj) R.M rfl rfl rfl (by omega) (Nat.le_refl _) (Nat.le_refl _) rfl ?_
    rintro _ _ ⟨rfl, rfl⟩
    refine bs_astore_n (pc' := 6) (lv' := [(0, _), (1, _), (2, _)]) dX5_parent_5 rfl rfl rfl rfl ?_
    refine bs_aload_n (pc' := 7) dX5_parent_6 rfl rfl rfl ?_
    refine bs_ifnonnull (tgt := 19) dX5_parent_7 rfl ?_
    refine bs_aload_n (pc' := 20) dX5_parent_19 rfl rfl rfl ?_
    refine bs_getf (pc' := 23) kf_X5_136 dX5_parent_20 (R.P hj) rfl rfl ?_
    exact bs_iret dX5_parent_23 rfl ⟨rfl, β, κ, rfl, P, R, S⟩
  · rw [if_neg hp]
    refine bs_Sp.of (by decide) rfl ?_
    refine bs_aload_n (pc' := 1) dX5_parent_0 rfl rfl rfl ?_
    refine bs_iload_n (pc' := 2) dX5_parent_1 rfl rfl ?_
    refine bs_callV (N := mX5_pointerAt) (pc' := 5) dX5_parent_2 km_X5_75 ko_X5_pointerAt (r_pointerAtN R P (by simpa using hp)) R.M rfl rfl rfl (by omega) (Nat.le_refl _) (Nat.le_refl _) rfl ?_
    rintro _ _ ⟨rfl, rfl⟩
    refine bs_astore_n (pc' := 6) (lv' := [(0, _), (1, _), (2, _)]) dX5_parent_5 rfl rfl rfl rfl ?_
    refine bs_aload_n (pc' := 7) dX5_parent_6 rfl rfl rfl ?_
    refine bs_ifnonnullN (pc' := 10) dX5_parent_7 rfl ?_
    refine bs_aload_n (pc' := 11) dX5_parent_10 rfl rfl rfl ?_
    refine bs_bipush (v := (-2)) (pc' := 13) dX5_parent_11 (by decide) rfl ?_
    refine bs_callV (N := mX5_counted) (pc' := 16) dX5_parent_13 km_X5_50 ko_X5_counted (c_counted ⟨β, κ, rfl, P, R, S⟩ h16) R.M rfl rfl rfl (by omega) (Nat.le_refl _) (Nat.le_refl _) rfl ?_
    rintro _ h2 ⟨rfl, C2⟩
    refine bs_goto (tgt := 23) dX5_parent_16 rfl ?_
    exact bs_iret dX5_parent_23 rfl ⟨rfl, C2⟩
theorem p_liveCells (C : CR G h0 m ψ B σ h) (h16 : σ 16 0 = 0) : bs_Sp G mX5_liveCells 2 0 0 [.ref m, .int p] h (fun r h' => r = some (.int (s_liv σ p).1) ∧ CR G h0 m ψ B (s_liv σ p).2 h') := by
  obtain ⟨β, κ, rfl, P, R, S⟩ := C
  have h60 := P.inv.nP.2
  unfold s_liv
  by_cases hp : inb p (zN (σ 8 0)) = true
  · rw [if_pos hp]
    obtain ⟨j, hj, rfl⟩ := inb_t (by omega) hp
    have ha := (P.inv.ow hj).2
    rw [zN_nI (show j < 2 ^ 31 by omega)]
    have elv : nI (lvO σ j) = nI (if σ 2 (zN (σ 9 j)) = 0 then lvC σ (zN (σ 9 j)) (nI j) (zN (σ 1 (zN (σ 9 j)))) 0 else 0) := by
      have q : ∀ f i, lvf σ j f i = lvC σ (zN (σ 9 j)) (nI j) f i := by
        intro f
        induction f with
        | zero => intro i; rfl
        | succ f ih => intro i; unfold lvf lvC; rw [ih]; rfl
      unfold lvO
      rw [q]
    refine bs_Sp.of (by decide) rfl ?_
    refine bs_aload_n (pc' := 1) dX5_liveCells_0 rfl rfl rfl ?_
    refine bs_iload_n (pc' := 2) dX5_liveCells_1 rfl rfl ?_
    refine bs_callV (N := mX5_pointerAt) (pc' := 5) dX5_liveCells_2 km_X5_75 ko_X5_pointerAt (r_pointerAt R P hj) R.M rfl rfl rfl (by omega) (Nat.le_refl _) (Nat.le_refl _) rfl ?_
    rintro _ _ ⟨rfl, rfl⟩
    refine bs_astore_n (pc' := 6) (lv' := [(0, _), (1, _), (2, _)]) dX5_liveCells_5 rfl rfl rfl rfl ?_
    refine bs_aload_n (pc' := 7) dX5_liveCells_6 rfl rfl rfl ?_
    refine bs_ifnonnull (tgt := 19) dX5_liveCells_7 rfl ?_
    refine bs_aload_n (pc' := 20) dX5_liveCells_19 rfl rfl rfl ?_
    refine bs_getf (pc' := 23) kf_X5_83 dX5_liveCells_20 (R.P hj) rfl rfl ?_
    refine bs_iload_n (pc' := 24) dX5_liveCells_23 rfl rfl ?_
    refine bs_callV (N := mX0_cellsAliveFor) (pc' := 27) dX5_liveCells_24 km_X5_139 ko_X0_cellsAliveFor (ra_cellsAlive R P ha) (R.O ha) rfl rfl rfl (by omega) (Nat.le_refl _) (Nat.le_refl _) rfl ?_
    rintro _ _ ⟨rfl, rfl⟩
    exact bs_iret dX5_liveCells_27 rfl ⟨by rw [elv], β, κ, rfl, P, R, S⟩
  · rw [if_neg hp]
    refine bs_Sp.of (by decide) rfl ?_
    refine bs_aload_n (pc' := 1) dX5_liveCells_0 rfl rfl rfl ?_
    refine bs_iload_n (pc' := 2) dX5_liveCells_1 rfl rfl ?_
    refine bs_callV (N := mX5_pointerAt) (pc' := 5) dX5_liveCells_2 km_X5_75 ko_X5_pointerAt (r_pointerAtN R P (by simpa using hp)) R.M rfl rfl rfl (by omega) (Nat.le_refl _) (Nat.le_refl _) rfl ?_
    rintro _ _ ⟨rfl, rfl⟩
    refine bs_astore_n (pc' := 6) (lv' := [(0, _), (1, _), (2, _)]) dX5_liveCells_5 rfl rfl rfl rfl ?_
    refine bs_aload_n (pc' := 7) dX5_liveCells_6 rfl rfl rfl ?_
    refine bs_ifnonnullN (pc' := 10) dX5_liveCells_7 rfl ?_
    refine bs_aload_n (pc' := 11) dX5_liveCells_10 rfl rfl rfl ?_
    refine bs_bipush (v := (-2)) (pc' := 13) dX5_liveCells_11 (by decide) rfl ?_
    refine bs_callV (N := mX5_counted) (pc' := 16) dX5_liveCells_13 km_X5_50 ko_X5_counted (c_counted ⟨β, κ, rfl, P, R, S⟩ h16) R.M rfl rfl rfl (by omega) (Nat.le_refl _) (Nat.le_refl _) rfl ?_
    rintro _ h2 ⟨rfl, C2⟩
    refine bs_goto (tgt := 27) dX5_liveCells_16 rfl ?_
    exact bs_iret dX5_liveCells_27 rfl ⟨rfl, C2⟩
theorem p_isFreed (C : CR G h0 m ψ B σ h) (h16 : σ 16 0 = 0) : bs_Sp G mX5_isFreed 1 0 0 [.ref m, .int p] h (fun r h' => r = some (.int (s_frd σ p).1) ∧ CR G h0 m ψ B (s_frd σ p).2 h') := by
  obtain ⟨β, κ, rfl, P, R, S⟩ := C
  have h10 := P.inv.nA.2
  unfold s_frd
  by_cases hp : inb p (zN (σ 0 0)) = true
  · rw [if_pos hp]
    obtain ⟨a, ha, rfl⟩ := inb_t (by omega) hp
    rw [zN_nI (show a < 2 ^ 31 by omega)]
    have e2 : σ 2 a = bI (decide (¬ σ 2 a = 0)) := by
      rcases P.frd a (by omega) with q | q
      · rw [q]; decide
      · rw [q]; decide
    refine bs_Sp.of (by decide) rfl ?_
    refine bs_aload_n (pc' := 1) dX5_isFreed_0 rfl rfl rfl ?_
    refine bs_iload_n (pc' := 2) dX5_isFreed_1 rfl rfl ?_
    refine bs_callV (N := mX5_allocationAt) (pc' := 5) dX5_isFreed_2 km_X5_142 ko_X5_allocationAt (r_allocationAt R P ha) R.M rfl rfl rfl (by omega) (Nat.le_refl _) (Nat.le_refl _) rfl ?_
    rintro _ _ ⟨rfl, rfl⟩
    refine bs_astore_n (pc' := 6) (lv' := [(0, _), (1, _), (2, _)]) dX5_isFreed_5 rfl rfl rfl rfl ?_
    refine bs_aload_n (pc' := 7) dX5_isFreed_6 rfl rfl rfl ?_
    refine bs_ifnonnull (tgt := 19) dX5_isFreed_7 rfl ?_
    refine bs_aload_n (pc' := 20) dX5_isFreed_19 rfl rfl rfl ?_
    refine bs_getf (pc' := 23) kf_X5_87 dX5_isFreed_20 (R.O ha) rfl rfl ?_
    refine bs_topi _ e2 ?_
    refine bs_callS (N := mX5_asNumber) (pc' := 26) dX5_isFreed_23 km_X5_129 ko_X5_asNumber sc_asNumber rfl rfl rfl (by omega) (Nat.le_refl _) (Nat.le_refl _) rfl ?_
    rintro _ _ ⟨rfl, rfl⟩
    exact bs_iret dX5_isFreed_26 rfl ⟨by rw [bI_d, ite_not], β, κ, rfl, P, R, S⟩
  · rw [if_neg hp]
    refine bs_Sp.of (by decide) rfl ?_
    refine bs_aload_n (pc' := 1) dX5_isFreed_0 rfl rfl rfl ?_
    refine bs_iload_n (pc' := 2) dX5_isFreed_1 rfl rfl ?_
    refine bs_callV (N := mX5_allocationAt) (pc' := 5) dX5_isFreed_2 km_X5_142 ko_X5_allocationAt (r_allocationAtN R P (by simpa using hp)) R.M rfl rfl rfl (by omega) (Nat.le_refl _) (Nat.le_refl _) rfl ?_
    rintro _ _ ⟨rfl, rfl⟩
    refine bs_astore_n (pc' := 6) (lv' := [(0, _), (1, _), (2, _)]) dX5_isFreed_5 rfl rfl rfl rfl ?_
    refine bs_aload_n (pc' := 7) dX5_isFreed_6 rfl rfl rfl ?_
    refine bs_ifnonnullN (pc' := 10) dX5_isFreed_7 rfl ?_
    refine bs_aload_n (pc' := 11) dX5_isFreed_10 rfl rfl rfl ?_
    refine bs_bipush (v := (-2)) (pc' := 13) dX5_isFreed_11 (by decide) rfl ?_
    refine bs_callV (N := mX5_counted) (pc' := 16) dX5_isFreed_13 km_X5_50 ko_X5_counted (c_counted ⟨β, κ, rfl, P, R, S⟩ h16) R.M rfl rfl rfl (by omega) (Nat.le_refl _) (Nat.le_refl _) rfl ?_
    rintro _ h2 ⟨rfl, C2⟩
    refine bs_goto (tgt := 26) dX5_isFreed_16 rfl ?_
    exact bs_iret dX5_isFreed_26 rfl ⟨rfl, C2⟩
theorem p_pointerCount (C : CR G h0 m ψ B σ h) : bs_Sp G mX5_pointerCount 0 0 0 [.ref m] h (fun r h' => r = some (.int (σ 8 0)) ∧ CR G h0 m ψ B σ h') := by
  obtain ⟨β, κ, rfl, P, R, S⟩ := C
  refine bs_Sp.of (by decide) rfl ?_
  refine bs_aload_n (pc' := 1) dX5_pointerCount_0 rfl rfl rfl ?_
  refine bs_getf (pc' := 4) kf_X5_146 dX5_pointerCount_1 R.M rfl rfl ?_
  exact bs_iret dX5_pointerCount_4 rfl ⟨rfl, β, κ, rfl, P, R, S⟩
theorem p_callDepth (C : CR G h0 m ψ B σ h) : bs_Sp G mX5_callDepth 0 0 0 [.ref m] h (fun r h' => r = some (.int (σ 11 0)) ∧ CR G h0 m ψ B σ h') := by
  obtain ⟨β, κ, rfl, P, R, S⟩ := C
  refine bs_Sp.of (by decide) rfl ?_
  refine bs_aload_n (pc' := 1) dX5_callDepth_0 rfl rfl rfl ?_
  refine bs_getf (pc' := 4) kf_X5_24 dX5_callDepth_1 R.M rfl rfl ?_
  refine bs_getf (pc' := 7) kf_X5_149 dX5_callDepth_4 R.C1 rfl rfl ?_
  exact bs_iret dX5_callDepth_7 rfl ⟨rfl, β, κ, rfl, P, R, S⟩
theorem p_violationCount (C : CR G h0 m ψ B σ h) : bs_Sp G mX5_violationCount 0 0 0 [.ref m] h (fun r h' => r = some (.int (σ 12 0)) ∧ CR G h0 m ψ B σ h') := by
  obtain ⟨β, κ, rfl, P, R, S⟩ := C
  refine bs_Sp.of (by decide) rfl ?_
  refine bs_aload_n (pc' := 1) dX5_violationCount_0 rfl rfl rfl ?_
  refine bs_getf (pc' := 4) kf_X5_152 dX5_violationCount_1 R.M rfl rfl ?_
  exact bs_iret dX5_violationCount_4 rfl ⟨rfl, β, κ, rfl, P, R, S⟩
theorem p_violationKind (C : CR G h0 m ψ B σ h) : bs_Sp G mX5_violationKind 0 0 0 [.ref m] h (fun r h' => r = some (.int (σ 13 0)) ∧ CR G h0 m ψ B σ h') := by
  obtain ⟨β, κ, rfl, P, R, S⟩ := C
  refine bs_Sp.of (by decide) rfl ?_
  refine bs_aload_n (pc' := 1) dX5_violationKind_0 rfl rfl rfl ?_
  refine bs_getf (pc' := 4) kf_X5_39 dX5_violationKind_1 R.M rfl rfl ?_
  exact bs_iret dX5_violationKind_4 rfl ⟨rfl, β, κ, rfl, P, R, S⟩
theorem p_violationCell (C : CR G h0 m ψ B σ h) : bs_Sp G mX5_violationCell 0 0 0 [.ref m] h (fun r h' => r = some (.int (σ 14 0)) ∧ CR G h0 m ψ B σ h') := by
  obtain ⟨β, κ, rfl, P, R, S⟩ := C
  refine bs_Sp.of (by decide) rfl ?_
  refine bs_aload_n (pc' := 1) dX5_violationCell_0 rfl rfl rfl ?_
  refine bs_getf (pc' := 4) kf_X5_43 dX5_violationCell_1 R.M rfl rfl ?_
  exact bs_iret dX5_violationCell_4 rfl ⟨rfl, β, κ, rfl, P, R, S⟩
theorem p_errorCount (C : CR G h0 m ψ B σ h) (h16 : σ 16 0 = 0) : bs_Sp G mX5_errorCount 1 0 0 [.ref m, .int p] h (fun r h' => r = some (.int (s_erc σ p).1) ∧ CR G h0 m ψ B (s_erc σ p).2 h') := by
  obtain ⟨β, κ, rfl, P, R, S⟩ := C
  unfold s_erc
  by_cases hp : 0 ≤ p ∧ p ≤ 2
  · rw [if_pos hp]
    obtain ⟨k, hk, rfl⟩ := nI_of2 (x := p) (M := 2) (n := 2) rfl (by rw [Int32.not_lt]; exact hp.1) hp.2
    rw [zN_nI (show k < 2 ^ 31 by omega)]
    refine bs_Sp.of (by decide) rfl ?_
    refine bs_iload_n (pc' := 1) dX5_errorCount_0 rfl rfl ?_
    refine bs_if_lt (tgt := 9) (pc' := 4) dX5_errorCount_1 rfl rfl (fun c1 => absurd c1 (Int32.not_lt.mpr hp.1)) (fun _ => ?_)
    refine bs_iload_n (pc' := 5) dX5_errorCount_4 rfl rfl ?_
    refine bs_iconst (v := 3) (pc' := 6) dX5_errorCount_5 (by decide) rfl ?_
    refine bs_icmp_lt (tgt := 16) (pc' := 9) dX5_errorCount_6 rfl rfl (fun _ => ?_) (fun c6 => absurd (by rw [show (3 : Int32) = nI 3 from rfl]; exact nI_lt (by omega) (by decide)) c6)
    refine bs_aload_n (pc' := 17) dX5_errorCount_16 rfl rfl rfl ?_
    refine bs_getf (pc' := 20) kf_X5_35 dX5_errorCount_17 R.M rfl rfl ?_
    refine bs_iload_n (pc' := 21) dX5_errorCount_20 rfl rfl ?_
    refine bs_ild (pc' := 22) dX5_errorCount_21 R.aE k rfl ⟨by omega, by decide⟩ rfl ?_
    exact bs_iret dX5_errorCount_22 rfl ⟨rfl, β, κ, rfl, P, R, S⟩
  · rw [if_neg hp]
    refine bs_Sp.of (by decide) rfl ?_
    refine bs_iload_n (pc' := 1) dX5_errorCount_0 rfl rfl ?_
    refine bs_if_lt (tgt := 9) (pc' := 4) dX5_errorCount_1 rfl rfl (fun c1 => ?_) (fun c1 => ?_)
    · refine bs_aload_n (pc' := 10) dX5_errorCount_9 rfl rfl rfl ?_
      refine bs_bipush (v := (-2)) (pc' := 12) dX5_errorCount_10 (by decide) rfl ?_
      refine bs_callV (N := mX5_counted) (pc' := 15) dX5_errorCount_12 km_X5_50 ko_X5_counted (c_counted ⟨β, κ, rfl, P, R, S⟩ h16) R.M rfl rfl rfl (by omega) (Nat.le_refl _) (Nat.le_refl _) rfl ?_
      rintro _ h2 ⟨rfl, C2⟩
      exact bs_iret dX5_errorCount_15 rfl ⟨rfl, C2⟩
    · refine bs_iload_n (pc' := 5) dX5_errorCount_4 rfl rfl ?_
      refine bs_iconst (v := 3) (pc' := 6) dX5_errorCount_5 (by decide) rfl ?_
      refine bs_icmp_lt (tgt := 16) (pc' := 9) dX5_errorCount_6 rfl rfl (fun c6 => ?_) (fun c6 => ?_)
      · exact absurd ⟨Int32.not_lt.mp c1, by (simp only [Int32.lt_iff_toInt_lt, Int32.le_iff_toInt_le, ← Int32.toInt_inj, Int32.reduceToInt] at *; omega)⟩ hp
      · refine bs_aload_n (pc' := 10) dX5_errorCount_9 rfl rfl rfl ?_
        refine bs_bipush (v := (-2)) (pc' := 12) dX5_errorCount_10 (by decide) rfl ?_
        refine bs_callV (N := mX5_counted) (pc' := 15) dX5_errorCount_12 km_X5_50 ko_X5_counted (c_counted ⟨β, κ, rfl, P, R, S⟩ h16) R.M rfl rfl rfl (by omega) (Nat.le_refl _) (Nat.le_refl _) rfl ?_
        rintro _ h2 ⟨rfl, C2⟩
        exact bs_iret dX5_errorCount_15 rfl ⟨rfl, C2⟩
end Ask
