/-! the class's own methods: what the calls do -/
section ROps
variable {G : GG} {h0 h : Hp} {β : AB} {B : Nat} {σ κ : MS} {c : Nat}
theorem isL_of {σ' : MS} (hc : isL σ c) (e0 : σ' 0 = σ 0) (e1 : σ' 1 = σ 1) : isL σ' c := by
  unfold isL
  rw [e0, e1]
  exact hc
theorem PI.isL (P : PI B σ κ) {j i : Nat} (hi : isPc σ j i) : isL σ (cO σ j i) := ⟨zN (σ 9 j), i, rfl, (P.inv.cell hi).1, (P.inv.ow hi.1).2, hi.2⟩
theorem isC_p {p x : Int32} (h : inb p (zN (σ 8 0)) = false) : isC σ p x = false := by
  unfold isC
  rw [h]
  rfl
theorem isC_c (P : PI B σ κ) {j : Nat} {x : Int32} (hj : j < zN (σ 8 0)) (h : inb x (zN (σ 1 (zN (σ 9 j)))) = false) : isC σ (nI j) x = false := by
  unfold isC
  rw [zN_nI (by have := P.inv.p60 hj; omega), h, Bool.and_false]
/-- is there such a pointer, such a cell -/
theorem pc_cases (P : PI B σ κ) (p x : Int32) : inb p (zN (σ 8 0)) = false ∨ (∃ j, p = nI j ∧ j < zN (σ 8 0) ∧ inb x (zN (σ 1 (zN (σ 9 j)))) = false) ∨ ∃ j i, p = nI j ∧ x = nI i ∧ isPc σ j i := by
  have h60 := P.inv.nP.2
  by_cases h1 : inb p (zN (σ 8 0)) = true
  · obtain ⟨j, hj, rfl⟩ := inb_t (by omega) h1
    have h8 := (P.inv.cl (P.inv.ow hj).2).1.2
    by_cases h2 : inb x (zN (σ 1 (zN (σ 9 j)))) = true
    · obtain ⟨i, hi, rfl⟩ := inb_t (by omega) h2
      exact Or.inr (Or.inr ⟨j, i, rfl, rfl, hj, hi⟩)
    · exact Or.inr (Or.inl ⟨j, rfl, hj, by simpa using h2⟩)
  · exact Or.inl (by simpa using h1)
theorem rdW_0 {t : Int32} (h : rdW σ c t = 0) : ∃ g, gr σ c t false = some g := by
  unfold rdW at h
  cases hg : gr σ c t false with
  | none => rw [hg] at h; exact absurd (show (1 : Int32) = 0 from h) (by decide)
  | some g => exact ⟨g, rfl⟩
theorem wrW_0 {t : Int32} (h : wrW σ c t = 0) : ∃ g, gr σ c t true = some g := by
  unfold wrW at h
  cases hg : gr σ c t true with
  | none => rw [hg] at h; exact absurd (show (1 : Int32) = 0 from h) (by decide)
  | some g => exact ⟨g, rfl⟩
theorem r_performRead {p x : Int32} (R : Rep G h0 β (lk σ κ) h) (P : PI B σ κ) : bs_Sp G mX5_performRead 2 0 0 [.ref (β 0 0 0), .int p, .int x] h (fun v h' => v = some (.int (k_read σ p x).1) ∧ Rep G h0 β (lk (k_read σ p x).2 κ) h') := by
  rcases pc_cases P p x with hp | ⟨j, rfl, hj, hx⟩ | ⟨j, i, rfl, rfl, hi⟩
  · have ek : k_read σ p x = (-2, σ) := by
      unfold k_read
      rw [isC_p hp]
      rfl
    rw [ek]
    refine bs_Sp.of (by decide) rfl ?_
    refine bs_aload_n (pc' := 1) dX5_performRead_0 rfl rfl rfl ?_
    refine bs_iload_n (pc' := 2) dX5_performRead_1 rfl rfl ?_
    refine bs_callV (N := mX5_pointerAt) (pc' := 5) dX5_performRead_2 km_X5_75 ko_X5_pointerAt (r_pointerAtN R P hp) R.M rfl rfl rfl (by omega) (Nat.le_refl _) (Nat.le_refl _) rfl ?_
    rintro _ _ ⟨rfl, rfl⟩
    refine bs_astore_n (pc' := 6) (lv' := [(0, _), (1, _), (2, _), (3, _)]) dX5_performRead_5 rfl rfl rfl rfl ?_
    refine bs_aload_n (pc' := 7) dX5_performRead_6 rfl rfl rfl ?_
    refine bs_iload_n (pc' := 8) dX5_performRead_7 rfl rfl ?_
    refine bs_callS (N := mX5_cellThrough) (pc' := 11) dX5_performRead_8 km_X5_79 ko_X5_cellThrough r_cellThroughN rfl rfl rfl (by omega) (Nat.le_refl _) (Nat.le_refl _) rfl ?_
    rintro _ _ ⟨rfl, rfl⟩
    refine bs_astore (pc' := 13) (lv' := [(0, _), (1, _), (2, _), (3, _), (4, _)]) dX5_performRead_11 rfl rfl rfl rfl ?_
    refine bs_aload_n (pc' := 14) dX5_performRead_13 rfl rfl rfl ?_
    refine bs_ifnullN (tgt := 22) dX5_performRead_14 rfl ?_
    refine bs_bipush (v := (-2)) (pc' := 24) dX5_performRead_22 (by decide) rfl ?_
    exact bs_iret dX5_performRead_24 rfl ⟨rfl, R⟩
  · have ek : k_read σ (nI j) x = (-2, σ) := by
      unfold k_read
      rw [isC_c P hj hx]
      rfl
    rw [ek]
    refine bs_Sp.of (by decide) rfl ?_
    refine bs_aload_n (pc' := 1) dX5_performRead_0 rfl rfl rfl ?_
    refine bs_iload_n (pc' := 2) dX5_performRead_1 rfl rfl ?_
    refine bs_callV (N := mX5_pointerAt) (pc' := 5) dX5_performRead_2 km_X5_75 ko_X5_pointerAt (r_pointerAt R P hj) R.M rfl rfl rfl (by omega) (Nat.le_refl _) (Nat.le_refl _) rfl ?_
    rintro _ _ ⟨rfl, rfl⟩
    refine bs_astore_n (pc' := 6) (lv' := [(0, _), (1, _), (2, _), (3, _)]) dX5_performRead_5 rfl rfl rfl rfl ?_
    refine bs_aload_n (pc' := 7) dX5_performRead_6 rfl rfl rfl ?_
    refine bs_iload_n (pc' := 8) dX5_performRead_7 rfl rfl ?_
    refine bs_callS (N := mX5_cellThrough) (pc' := 11) dX5_performRead_8 km_X5_79 ko_X5_cellThrough (r_cellThroughO R P hj hx) rfl rfl rfl (by omega) (Nat.le_refl _) (Nat.le_refl _) rfl ?_
    rintro _ _ ⟨rfl, rfl⟩
    refine bs_astore (pc' := 13) (lv' := [(0, _), (1, _), (2, _), (3, _), (4, _)]) dX5_performRead_11 rfl rfl rfl rfl ?_
    refine bs_aload_n (pc' := 14) dX5_performRead_13 rfl rfl rfl ?_
    refine bs_ifnull (pc' := 17) dX5_performRead_14 rfl ?_
    refine bs_aload (pc' := 19) dX5_performRead_17 rfl rfl rfl ?_
    refine bs_ifnonnullN (pc' := 22) dX5_performRead_19 rfl ?_
    refine bs_bipush (v := (-2)) (pc' := 24) dX5_performRead_22 (by decide) rfl ?_
    exact bs_iret dX5_performRead_24 rfl ⟨rfl, R⟩
  · have hj := hi.1
    have ha := (P.inv.ow hj).2
    have hc := P.isL hi
    have h60 := P.inv.p60 hj
    have h8 := (P.inv.cell hi).1
    have ek : k_read σ (nI j) (nI i) = if rdK σ j i = 0 then (σ 3 (cO σ j i), dRd σ j i) else (-5, vio σ (rdK σ j i) (nI i)) := by
      unfold k_read
      rw [isC_nI P.inv hi, if_pos rfl, zN_nI (by omega), zN_nI (by omega)]
    by_cases hf : σ 2 (zN (σ 9 j)) = 0
    · have eK : rdK σ j i = rdW σ (cO σ j i) (nI j) := by rw [rdK_W, if_neg (fun z => z hf)]
      rw [ek, eK]
      refine bs_Sp.of (by decide) rfl ?_
      refine bs_aload_n (pc' := 1) dX5_performRead_0 rfl rfl rfl ?_
      refine bs_iload_n (pc' := 2) dX5_performRead_1 rfl rfl ?_
      refine bs_callV (N := mX5_pointerAt) (pc' := 5) dX5_performRead_2 km_X5_75 ko_X5_pointerAt (r_pointerAt R P hj) R.M rfl rfl rfl (by omega) (Nat.le_refl _) (Nat.le_refl _) rfl ?_
      rintro _ _ ⟨rfl, rfl⟩
      refine bs_astore_n (pc' := 6) (lv' := [(0, _), (1, _), (2, _), (3, _)]) dX5_performRead_5 rfl rfl rfl rfl ?_
      refine bs_aload_n (pc' := 7) dX5_performRead_6 rfl rfl rfl ?_
      refine bs_iload_n (pc' := 8) dX5_performRead_7 rfl rfl ?_
      refine bs_callS (N := mX5_cellThrough) (pc' := 11) dX5_performRead_8 km_X5_79 ko_X5_cellThrough (r_cellThrough R P hi) rfl rfl rfl (by omega) (Nat.le_refl _) (Nat.le_refl _) rfl ?_
      rintro _ _ ⟨rfl, rfl⟩
      refine bs_astore (pc' := 13) (lv' := [(0, _), (1, _), (2, _), (3, _), (4, _)]) dX5_performRead_11 rfl rfl rfl rfl ?_
      refine bs_aload_n (pc' := 14) dX5_performRead_13 rfl rfl rfl ?_
      refine bs_ifnull (pc' := 17) dX5_performRead_14 rfl ?_
      refine bs_aload (pc' := 19) dX5_performRead_17 rfl rfl rfl ?_
      refine bs_ifnonnull (tgt := 25) dX5_performRead_19 rfl ?_
      refine bs_aload_n (pc' := 26) dX5_performRead_25 rfl rfl rfl ?_
      refine bs_getf (pc' := 29) kf_X5_83 dX5_performRead_26 (R.P hj) rfl rfl ?_
      refine bs_getf (pc' := 32) kf_X5_87 dX5_performRead_29 (R.O ha) rfl rfl ?_
      refine bs_if_eq (tgt := 42) (pc' := 35) dX5_performRead_32 rfl rfl (fun _ => ?_) (fun c32 => absurd hf c32)
      refine bs_aload (pc' := 44) dX5_performRead_42 rfl rfl rfl ?_
      refine bs_iload_n (pc' := 45) dX5_performRead_44 rfl rfl ?_
      refine bs_aload_n (pc' := 46) dX5_performRead_45 rfl rfl rfl ?_
      refine bs_getf (pc' := 49) kf_X5_24 dX5_performRead_46 R.M rfl rfl ?_
      refine bs_callV (N := mX2_readViolation) (pc' := 52) dX5_performRead_49 km_X5_91 ko_X2_readViolation (rc_readViolation R P hc) (R.E hc) rfl rfl rfl (by omega) (Nat.le_refl _) (Nat.le_refl _) rfl ?_
      rintro _ _ ⟨rfl, rfl⟩
      refine bs_istore (pc' := 54) (lv' := [(0, _), (1, _), (2, _), (3, _), (4, _), (5, _)]) dX5_performRead_52 rfl rfl rfl ?_
      refine bs_iload (pc' := 56) dX5_performRead_54 rfl rfl ?_
      refine bs_if_eq (tgt := 67) (pc' := 59) dX5_performRead_56 rfl rfl (fun c56 => ?_) (fun c56 => ?_)
      · obtain ⟨g, hg⟩ := rdW_0 c56
        refine bs_aload (pc' := 69) dX5_performRead_67 rfl rfl rfl ?_
        refine bs_iload_n (pc' := 70) dX5_performRead_69 rfl rfl ?_
        refine bs_callV (N := mX2_applyRead) (pc' := 73) dX5_performRead_70 km_X5_205 ko_X2_applyRead (rc_applyRead R P hc hg) (R.E hc) rfl rfl rfl (by omega) (Nat.le_refl _) (Nat.le_refl _) rfl ?_
        rintro _ h ⟨rfl, R⟩
        have hc := isL_of (σ' := dis σ (12 * cO σ j i + (g + 1)) (12 * cO σ j i + zN (σ 4 (cO σ j i)))) hc (dis_n (by decide)) (dis_n (by decide))
        refine bs_aload (pc' := 75) dX5_performRead_73 rfl rfl rfl ?_
        refine bs_getf (pc' := 78) kf_X5_209 dX5_performRead_75 (R.E hc) rfl rfl ?_
        exact bs_iret dX5_performRead_78 rfl ⟨by rw [if_pos c56, dis_n (by decide)], by rw [if_pos c56]; unfold dRd; rw [hg]; exact R⟩
      · refine bs_aload_n (pc' := 60) dX5_performRead_59 rfl rfl rfl ?_
        refine bs_iload (pc' := 62) dX5_performRead_60 rfl rfl ?_
        refine bs_iload_n (pc' := 63) dX5_performRead_62 rfl rfl ?_
        refine bs_callV (N := mX5_violated) (pc' := 66) dX5_performRead_63 km_X5_202 ko_X5_violated (r_violated R) R.M rfl rfl rfl (by omega) (Nat.le_refl _) (Nat.le_refl _) rfl ?_
        rintro _ h ⟨rfl, R⟩
        exact bs_iret dX5_performRead_66 rfl ⟨by rw [if_neg c56], by rw [if_neg c56]; exact R⟩
    · have eK : rdK σ j i = 3 := by rw [rdK_W, if_pos hf]
      rw [ek, eK, if_neg (by decide)]
      refine bs_Sp.of (by decide) rfl ?_
      refine bs_aload_n (pc' := 1) dX5_performRead_0 rfl rfl rfl ?_
      refine bs_iload_n (pc' := 2) dX5_performRead_1 rfl rfl ?_
      refine bs_callV (N := mX5_pointerAt) (pc' := 5) dX5_performRead_2 km_X5_75 ko_X5_pointerAt (r_pointerAt R P hj) R.M rfl rfl rfl (by omega) (Nat.le_refl _) (Nat.le_refl _) rfl ?_
      rintro _ _ ⟨rfl, rfl⟩
      refine bs_astore_n (pc' := 6) (lv' := [(0, _), (1, _), (2, _), (3, _)]) dX5_performRead_5 rfl rfl rfl rfl ?_
      refine bs_aload_n (pc' := 7) dX5_performRead_6 rfl rfl rfl ?_
      refine bs_iload_n (pc' := 8) dX5_performRead_7 rfl rfl ?_
      refine bs_callS (N := mX5_cellThrough) (pc' := 11) dX5_performRead_8 km_X5_79 ko_X5_cellThrough (r_cellThrough R P hi) rfl rfl rfl (by omega) (Nat.le_refl _) (Nat.le_refl _) rfl ?_
      rintro _ _ ⟨rfl, rfl⟩
      refine bs_astore (pc' := 13) (lv' := [(0, _), (1, _), (2, _), (3, _), (4, _)]) dX5_performRead_11 rfl rfl rfl rfl ?_
      refine bs_aload_n (pc' := 14) dX5_performRead_13 rfl rfl rfl ?_
      refine bs_ifnull (pc' := 17) dX5_performRead_14 rfl ?_
      refine bs_aload (pc' := 19) dX5_performRead_17 rfl rfl rfl ?_
      refine bs_ifnonnull (tgt := 25) dX5_performRead_19 rfl ?_
      refine bs_aload_n (pc' := 26) dX5_performRead_25 rfl rfl rfl ?_
      refine bs_getf (pc' := 29) kf_X5_83 dX5_performRead_26 (R.P hj) rfl rfl ?_
      refine bs_getf (pc' := 32) kf_X5_87 dX5_performRead_29 (R.O ha) rfl rfl ?_
      refine bs_if_eq (tgt := 42) (pc' := 35) dX5_performRead_32 rfl rfl (fun c32 => absurd c32 hf) (fun _ => ?_)
      refine bs_aload_n (pc' := 36) dX5_performRead_35 rfl rfl rfl ?_
      refine bs_iconst (v := 3) (pc' := 37) dX5_performRead_36 (by decide) rfl ?_
      refine bs_iload_n (pc' := 38) dX5_performRead_37 rfl rfl ?_
      refine bs_callV (N := mX5_violated) (pc' := 41) dX5_performRead_38 km_X5_202 ko_X5_violated (r_violated R) R.M rfl rfl rfl (by omega) (Nat.le_refl _) (Nat.le_refl _) rfl ?_
      rintro _ h ⟨rfl, R⟩
      exact bs_iret dX5_performRead_41 rfl ⟨rfl, R⟩
theorem PI_read {p x : Int32} (P : PI B σ κ) : PI B (k_read σ p x).2 κ := by
  unfold k_read
  split
  · next q =>
    split
    · obtain ⟨j, i, rfl, rfl, hi⟩ := isC_t P.inv q
      have h60 := P.inv.p60 hi.1
      have h8 := (P.inv.cell hi)
      have h3 := P.inv.c8 hi
      have h4 := (P.inv.sz h8.2).2
      rw [zN_nI (by omega), zN_nI (by omega)]
      exact PI_dis P (by have h4 : zN (σ 4 (cO σ j i)) ≤ 12 := h4; omega)
    · exact P.of (fun k hk => vio_k (by omega))
  · exact P
theorem r_performWrite {p x v : Int32} (R : Rep G h0 β (lk σ κ) h) (P : PI B σ κ) : bs_Sp G mX5_performWrite 3 0 0 [.ref (β 0 0 0), .int p, .int x, .int v] h (fun r h' => r = some (.int (k_write σ p x v).1) ∧ Rep G h0 β (lk (k_write σ p x v).2 κ) h') := by
  rcases pc_cases P p x with hp | ⟨j, rfl, hj, hx⟩ | ⟨j, i, rfl, rfl, hi⟩
  · have ek : k_write σ p x v = (-2, σ) := by
      unfold k_write
      rw [isC_p hp]
      rfl
    rw [ek]
    refine bs_Sp.of (by decide) rfl ?_
    refine bs_aload_n (pc' := 1) dX5_performWrite_0 rfl rfl rfl ?_
    refine bs_iload_n (pc' := 2) dX5_performWrite_1 rfl rfl ?_
    refine bs_callV (N := mX5_pointerAt) (pc' := 5) dX5_performWrite_2 km_X5_75 ko_X5_pointerAt (r_pointerAtN R P hp) R.M rfl rfl rfl (by omega) (Nat.le_refl _) (Nat.le_refl _) rfl ?_
    rintro _ _ ⟨rfl, rfl⟩
    refine bs_astore (pc' := 7) (lv' := [(0, _), (1, _), (2, _), (3, _), (4, _)]) dX5_performWrite_5 rfl rfl rfl rfl ?_
    refine bs_aload (pc' := 9) dX5_performWrite_7 rfl rfl rfl ?_
    refine bs_iload_n (pc' := 10) dX5_performWrite_9 rfl rfl ?_
    refine bs_callS (N := mX5_cellThrough) (pc' := 13) dX5_performWrite_10 km_X5_79 ko_X5_cellThrough r_cellThroughN rfl rfl rfl (by omega) (Nat.le_refl _) (Nat.le_refl _) rfl ?_
    rintro _ _ ⟨rfl, rfl⟩
    refine bs_astore (pc' := 15) (lv' := [(0, _), (1, _), (2, _), (3, _), (4, _), (5, _)]) dX5_performWrite_13 rfl rfl rfl rfl ?_
    refine bs_aload (pc' := 17) dX5_performWrite_15 rfl rfl rfl ?_
    refine bs_ifnullN (tgt := 35) dX5_performWrite_17 rfl ?_
    refine bs_bipush (v := (-2)) (pc' := 37) dX5_performWrite_35 (by decide) rfl ?_
    exact bs_iret dX5_performWrite_37 rfl ⟨rfl, R⟩
  · have ek : k_write σ (nI j) x v = (-2, σ) := by
      unfold k_write
      rw [isC_c P hj hx]
      rfl
    rw [ek]
    refine bs_Sp.of (by decide) rfl ?_
    refine bs_aload_n (pc' := 1) dX5_performWrite_0 rfl rfl rfl ?_
    refine bs_iload_n (pc' := 2) dX5_performWrite_1 rfl rfl ?_
    refine bs_callV (N := mX5_pointerAt) (pc' := 5) dX5_performWrite_2 km_X5_75 ko_X5_pointerAt (r_pointerAt R P hj) R.M rfl rfl rfl (by omega) (Nat.le_refl _) (Nat.le_refl _) rfl ?_
    rintro _ _ ⟨rfl, rfl⟩
    refine bs_astore (pc' := 7) (lv' := [(0, _), (1, _), (2, _), (3, _), (4, _)]) dX5_performWrite_5 rfl rfl rfl rfl ?_
    refine bs_aload (pc' := 9) dX5_performWrite_7 rfl rfl rfl ?_
    refine bs_iload_n (pc' := 10) dX5_performWrite_9 rfl rfl ?_
    refine bs_callS (N := mX5_cellThrough) (pc' := 13) dX5_performWrite_10 km_X5_79 ko_X5_cellThrough (r_cellThroughO R P hj hx) rfl rfl rfl (by omega) (Nat.le_refl _) (Nat.le_refl _) rfl ?_
    rintro _ _ ⟨rfl, rfl⟩
    refine bs_astore (pc' := 15) (lv' := [(0, _), (1, _), (2, _), (3, _), (4, _), (5, _)]) dX5_performWrite_13 rfl rfl rfl rfl ?_
    refine bs_aload (pc' := 17) dX5_performWrite_15 rfl rfl rfl ?_
    refine bs_ifnull (pc' := 20) dX5_performWrite_17 rfl ?_
    refine bs_aload (pc' := 22) dX5_performWrite_20 rfl rfl rfl ?_
    refine bs_ifnullN (tgt := 35) dX5_performWrite_22 rfl ?_
    refine bs_bipush (v := (-2)) (pc' := 37) dX5_performWrite_35 (by decide) rfl ?_
    exact bs_iret dX5_performWrite_37 rfl ⟨rfl, R⟩
  · have hj := hi.1
    have ha := (P.inv.ow hj).2
    have hc := P.isL hi
    have h60 := P.inv.p60 hj
    have h8 := (P.inv.cell hi).1
    by_cases hv : 0 ≤ v ∧ v ≤ 99
    · have ek : k_write σ (nI j) (nI i) v = if wrK σ j i = 0 then (σ 3 (cO σ j i), ms_u (dWr σ j i) 3 (cO σ j i) v) else (-5, vio σ (wrK σ j i) (nI i)) := by
        unfold k_write
        rw [isC_nI P.inv hi, if_pos ⟨rfl, hv⟩, zN_nI (by omega), zN_nI (by omega)]
      by_cases hf : σ 2 (zN (σ 9 j)) = 0
      · have eK : wrK σ j i = wrW σ (cO σ j i) (nI j) := by rw [wrK_W, if_neg (fun z => z hf)]
        rw [ek, eK]
        refine bs_Sp.of (by decide) rfl ?_
        refine bs_aload_n (pc' := 1) dX5_performWrite_0 rfl rfl rfl ?_
        refine bs_iload_n (pc' := 2) dX5_performWrite_1 rfl rfl ?_
        refine bs_callV (N := mX5_pointerAt) (pc' := 5) dX5_performWrite_2 km_X5_75 ko_X5_pointerAt (r_pointerAt R P hj) R.M rfl rfl rfl (by omega) (Nat.le_refl _) (Nat.le_refl _) rfl ?_
        rintro _ _ ⟨rfl, rfl⟩
        refine bs_astore (pc' := 7) (lv' := [(0, _), (1, _), (2, _), (3, _), (4, _)]) dX5_performWrite_5 rfl rfl rfl rfl ?_
        refine bs_aload (pc' := 9) dX5_performWrite_7 rfl rfl rfl ?_
        refine bs_iload_n (pc' := 10) dX5_performWrite_9 rfl rfl ?_
        refine bs_callS (N := mX5_cellThrough) (pc' := 13) dX5_performWrite_10 km_X5_79 ko_X5_cellThrough (r_cellThrough R P hi) rfl rfl rfl (by omega) (Nat.le_refl _) (Nat.le_refl _) rfl ?_
        rintro _ _ ⟨rfl, rfl⟩
        refine bs_astore (pc' := 15) (lv' := [(0, _), (1, _), (2, _), (3, _), (4, _), (5, _)]) dX5_performWrite_13 rfl rfl rfl rfl ?_
        refine bs_aload (pc' := 17) dX5_performWrite_15 rfl rfl rfl ?_
        refine bs_ifnull (pc' := 20) dX5_performWrite_17 rfl ?_
        refine bs_aload (pc' := 22) dX5_performWrite_20 rfl rfl rfl ?_
        refine bs_ifnull (pc' := 25) dX5_performWrite_22 rfl ?_
        refine bs_iload_n (pc' := 26) dX5_performWrite_25 rfl rfl ?_
        refine bs_if_lt (tgt := 35) (pc' := 29) dX5_performWrite_26 rfl rfl (fun c26 => absurd c26 (Int32.not_lt.mpr hv.1)) (fun _ => ?_)
        refine bs_iload_n (pc' := 30) dX5_performWrite_29 rfl rfl ?_
        refine bs_bipush (v := 99) (pc' := 32) dX5_performWrite_30 (by decide) rfl ?_
        refine bs_icmp_le (tgt := 38) (pc' := 35) dX5_performWrite_32 rfl rfl (fun _ => ?_) (fun c32 => absurd hv.2 c32)
        refine bs_aload (pc' := 40) dX5_performWrite_38 rfl rfl rfl ?_
        refine bs_getf (pc' := 43) kf_X5_83 dX5_performWrite_40 (R.P hj) rfl rfl ?_
        refine bs_getf (pc' := 46) kf_X5_87 dX5_performWrite_43 (R.O ha) rfl rfl ?_
        refine bs_if_eq (tgt := 56) (pc' := 49) dX5_performWrite_46 rfl rfl (fun _ => ?_) (fun c46 => absurd hf c46)
        refine bs_aload (pc' := 58) dX5_performWrite_56 rfl rfl rfl ?_
        refine bs_iload_n (pc' := 59) dX5_performWrite_58 rfl rfl ?_
        refine bs_aload_n (pc' := 60) dX5_performWrite_59 rfl rfl rfl ?_
        refine bs_getf (pc' := 63) kf_X5_24 dX5_performWrite_60 R.M rfl rfl ?_
        refine bs_callV (N := mX2_writeViolation) (pc' := 66) dX5_performWrite_63 km_X5_97 ko_X2_writeViolation (rc_writeViolation R P hc) (R.E hc) rfl rfl rfl (by omega) (Nat.le_refl _) (Nat.le_refl _) rfl ?_
        rintro _ _ ⟨rfl, rfl⟩
        refine bs_istore (pc' := 68) (lv' := [(0, _), (1, _), (2, _), (3, _), (4, _), (5, _), (6, _)]) dX5_performWrite_66 rfl rfl rfl ?_
        refine bs_iload (pc' := 70) dX5_performWrite_68 rfl rfl ?_
        refine bs_if_eq (tgt := 81) (pc' := 73) dX5_performWrite_70 rfl rfl (fun c70 => ?_) (fun c70 => ?_)
        · obtain ⟨g, hg⟩ := wrW_0 c70
          have hk : kpW σ (cO σ j i) (nI j) = ab σ (cO σ j i) g := by unfold kpW; rw [hg]
          have hd : dWr σ j i = ms_u σ 4 (cO σ j i) (nI (kpW σ (cO σ j i) (nI j))) := by unfold dWr; rw [hg, hk]
          have hab : ab σ (cO σ j i) g ≤ _ := (abf_le (pm := fun k => σ 6 (12 * cO σ j i + k)) (grf_lt hg)).2
          have hn12 := (P.inv.sz (P.inv.cell hi).2).2
          refine bs_aload (pc' := 83) dX5_performWrite_81 rfl rfl rfl ?_
          refine bs_iload_n (pc' := 84) dX5_performWrite_83 rfl rfl ?_
          refine bs_callV (N := mX2_applyWrite) (pc' := 87) dX5_performWrite_84 km_X5_212 ko_X2_applyWrite (rc_applyWrite R P hc) (R.E hc) rfl rfl rfl (by omega) (Nat.le_refl _) (Nat.le_refl _) rfl ?_
          rintro _ h ⟨rfl, R⟩
          rw [← hd] at R
          have P := PI_4 (c := cO σ j i) (x := nI (kpW σ (cO σ j i) (nI j))) P (nn_nI (by rw [hk]; exact Nat.le_trans hab hn12) (by decide)) (P.inv.c8 hi)
          rw [← hd] at P
          have hc := isL_of (σ' := dWr σ j i) hc (dWr_n (by decide)) (dWr_n (by decide))
          refine bs_aload (pc' := 89) dX5_performWrite_87 rfl rfl rfl ?_
          refine bs_getf (pc' := 92) kf_X5_209 dX5_performWrite_89 (R.E hc) rfl rfl ?_
          refine bs_istore (pc' := 94) (lv' := [(0, _), (1, _), (2, _), (3, _), (4, _), (5, _), (6, _), (7, _)]) dX5_performWrite_92 rfl rfl rfl ?_
          refine bs_aload (pc' := 96) dX5_performWrite_94 rfl rfl rfl ?_
          refine bs_iload_n (pc' := 97) dX5_performWrite_96 rfl rfl ?_
          refine rp_val (pc' := 100) R P hc kf_X5_209 dX5_performWrite_97 rfl ?_
          clear R
          intro h R
          refine bs_iload (pc' := 102) dX5_performWrite_100 rfl rfl ?_
          exact bs_iret dX5_performWrite_102 rfl ⟨by rw [if_pos c70, dWr_n (by decide)], by rw [if_pos c70]; exact R⟩
        · refine bs_aload_n (pc' := 74) dX5_performWrite_73 rfl rfl rfl ?_
          refine bs_iload (pc' := 76) dX5_performWrite_74 rfl rfl ?_
          refine bs_iload_n (pc' := 77) dX5_performWrite_76 rfl rfl ?_
          refine bs_callV (N := mX5_violated) (pc' := 80) dX5_performWrite_77 km_X5_202 ko_X5_violated (r_violated R) R.M rfl rfl rfl (by omega) (Nat.le_refl _) (Nat.le_refl _) rfl ?_
          rintro _ h ⟨rfl, R⟩
          exact bs_iret dX5_performWrite_80 rfl ⟨by rw [if_neg c70], by rw [if_neg c70]; exact R⟩
      · have eK : wrK σ j i = 3 := by rw [wrK_W, if_pos hf]
        rw [ek, eK, if_neg (by decide)]
        refine bs_Sp.of (by decide) rfl ?_
        refine bs_aload_n (pc' := 1) dX5_performWrite_0 rfl rfl rfl ?_
        refine bs_iload_n (pc' := 2) dX5_performWrite_1 rfl rfl ?_
        refine bs_callV (N := mX5_pointerAt) (pc' := 5) dX5_performWrite_2 km_X5_75 ko_X5_pointerAt (r_pointerAt R P hj) R.M rfl rfl rfl (by omega) (Nat.le_refl _) (Nat.le_refl _) rfl ?_
        rintro _ _ ⟨rfl, rfl⟩
        refine bs_astore (pc' := 7) (lv' := [(0, _), (1, _), (2, _), (3, _), (4, _)]) dX5_performWrite_5 rfl rfl rfl rfl ?_
        refine bs_aload (pc' := 9) dX5_performWrite_7 rfl rfl rfl ?_
        refine bs_iload_n (pc' := 10) dX5_performWrite_9 rfl rfl ?_
        refine bs_callS (N := mX5_cellThrough) (pc' := 13) dX5_performWrite_10 km_X5_79 ko_X5_cellThrough (r_cellThrough R P hi) rfl rfl rfl (by omega) (Nat.le_refl _) (Nat.le_refl _) rfl ?_
        rintro _ _ ⟨rfl, rfl⟩
        refine bs_astore (pc' := 15) (lv' := [(0, _), (1, _), (2, _), (3, _), (4, _), (5, _)]) dX5_performWrite_13 rfl rfl rfl rfl ?_
        refine bs_aload (pc' := 17) dX5_performWrite_15 rfl rfl rfl ?_
        refine bs_ifnull (pc' := 20) dX5_performWrite_17 rfl ?_
        refine bs_aload (pc' := 22) dX5_performWrite_20 rfl rfl rfl ?_
        refine bs_ifnull (pc' := 25) dX5_performWrite_22 rfl ?_
        refine bs_iload_n (pc' := 26) dX5_performWrite_25 rfl rfl ?_
        refine bs_if_lt (tgt := 35) (pc' := 29) dX5_performWrite_26 rfl rfl (fun c26 => absurd c26 (Int32.not_lt.mpr hv.1)) (fun _ => ?_)
        refine bs_iload_n (pc' := 30) dX5_performWrite_29 rfl rfl ?_
        refine bs_bipush (v := 99) (pc' := 32) dX5_performWrite_30 (by decide) rfl ?_
        refine bs_icmp_le (tgt := 38) (pc' := 35) dX5_performWrite_32 rfl rfl (fun _ => ?_) (fun c32 => absurd hv.2 c32)
        refine bs_aload (pc' := 40) dX5_performWrite_38 rfl rfl rfl ?_
        refine bs_getf (pc' := 43) kf_X5_83 dX5_performWrite_40 (R.P hj) rfl rfl ?_
        refine bs_getf (pc' := 46) kf_X5_87 dX5_performWrite_43 (R.O ha) rfl rfl ?_
        refine bs_if_eq (tgt := 56) (pc' := 49) dX5_performWrite_46 rfl rfl (fun c46 => absurd c46 hf) (fun _ => ?_)
        refine bs_aload_n (pc' := 50) dX5_performWrite_49 rfl rfl rfl ?_
        refine bs_iconst (v := 3) (pc' := 51) dX5_performWrite_50 (by decide) rfl ?_
        refine bs_iload_n (pc' := 52) dX5_performWrite_51 rfl rfl ?_
        refine bs_callV (N := mX5_violated) (pc' := 55) dX5_performWrite_52 km_X5_202 ko_X5_violated (r_violated R) R.M rfl rfl rfl (by omega) (Nat.le_refl _) (Nat.le_refl _) rfl ?_
        rintro _ h ⟨rfl, R⟩
        exact bs_iret dX5_performWrite_55 rfl ⟨rfl, R⟩
    · have ek : k_write σ (nI j) (nI i) v = (-2, σ) := by
        unfold k_write
        rw [if_neg (fun z => hv z.2)]
      rw [ek]
      refine bs_Sp.of (by decide) rfl ?_
      refine bs_aload_n (pc' := 1) dX5_performWrite_0 rfl rfl rfl ?_
      refine bs_iload_n (pc' := 2) dX5_performWrite_1 rfl rfl ?_
      refine bs_callV (N := mX5_pointerAt) (pc' := 5) dX5_performWrite_2 km_X5_75 ko_X5_pointerAt (r_pointerAt R P hj) R.M rfl rfl rfl (by omega) (Nat.le_refl _) (Nat.le_refl _) rfl ?_
      rintro _ _ ⟨rfl, rfl⟩
      refine bs_astore (pc' := 7) (lv' := [(0, _), (1, _), (2, _), (3, _), (4, _)]) dX5_performWrite_5 rfl rfl rfl rfl ?_
      refine bs_aload (pc' := 9) dX5_performWrite_7 rfl rfl rfl ?_
      refine bs_iload_n (pc' := 10) dX5_performWrite_9 rfl rfl ?_
      refine bs_callS (N := mX5_cellThrough) (pc' := 13) dX5_performWrite_10 km_X5_79 ko_X5_cellThrough (r_cellThrough R P hi) rfl rfl rfl (by omega) (Nat.le_refl _) (Nat.le_refl _) rfl ?_
      rintro _ _ ⟨rfl, rfl⟩
      refine bs_astore (pc' := 15) (lv' := [(0, _), (1, _), (2, _), (3, _), (4, _), (5, _)]) dX5_performWrite_13 rfl rfl rfl rfl ?_
      refine bs_aload (pc' := 17) dX5_performWrite_15 rfl rfl rfl ?_
      refine bs_ifnull (pc' := 20) dX5_performWrite_17 rfl ?_
      refine bs_aload (pc' := 22) dX5_performWrite_20 rfl rfl rfl ?_
      refine bs_ifnull (pc' := 25) dX5_performWrite_22 rfl ?_
      refine bs_iload_n (pc' := 26) dX5_performWrite_25 rfl rfl ?_
      refine bs_if_lt (tgt := 35) (pc' := 29) dX5_performWrite_26 rfl rfl (fun c26 => ?_) (fun c26 => ?_)
      · refine bs_bipush (v := (-2)) (pc' := 37) dX5_performWrite_35 (by decide) rfl ?_
        exact bs_iret dX5_performWrite_37 rfl ⟨rfl, R⟩
      · refine bs_iload_n (pc' := 30) dX5_performWrite_29 rfl rfl ?_
        refine bs_bipush (v := 99) (pc' := 32) dX5_performWrite_30 (by decide) rfl ?_
        refine bs_icmp_le (tgt := 38) (pc' := 35) dX5_performWrite_32 rfl rfl (fun c32 => ?_) (fun c32 => ?_)
        · exact absurd ⟨Int32.not_lt.mp c26, c32⟩ hv
        · refine bs_bipush (v := (-2)) (pc' := 37) dX5_performWrite_35 (by decide) rfl ?_
          exact bs_iret dX5_performWrite_37 rfl ⟨rfl, R⟩
theorem PI_write {p x v : Int32} (P : PI B σ κ) : PI B (k_write σ p x v).2 κ := by
  unfold k_write
  split
  · next q =>
    split
    · obtain ⟨j, i, rfl, rfl, hi⟩ := isC_t P.inv q.1
      have h60 := P.inv.p60 hi.1
      have h8 := (P.inv.cell hi)
      have h3 := P.inv.c8 hi
      have h4 := (P.inv.sz h8.2).2
      rw [zN_nI (by omega), zN_nI (by omega)]
      have P1 : PI B (dWr σ j i) κ := by
        unfold dWr
        cases hg : gr σ (cO σ j i) (nI j) true with
        | none => exact P
        | some g =>
          have hab : ab σ (cO σ j i) g ≤ _ := (abf_le (pm := fun k => σ 6 (12 * cO σ j i + k)) (grf_lt hg)).2
          exact PI_4 P (nn_nI (Nat.le_trans hab h4) (by decide)) h3
      exact PI_3 P1 q.2.1 (by rw [dWr_n (by decide)]; exact h3)
    · exact P.of (fun k hk => vio_k (by omega))
  · exact P
/-! an allocation's cells -/
theorem oL (P : PI B σ κ) {a i : Nat} (ha : a < zN (σ 0 0)) (hi : i < zN (σ 1 a)) : isL σ (8 * a + i) := ⟨a, i, rfl, by have := (P.inv.cl ha).1.2; omega, ha, hi⟩
theorem ra_firstCell {a : Nat} {t : Int32} (R : Rep G h0 β (lk σ κ) h) (P : PI B σ κ) (ha : a < zN (σ 0 0)) : bs_Sp G mX0_firstCellAgainstFree 3 0 0 [.ref (β 2 a 0), .int t, .ref (β 0 3 0)] h (cQ h (oI (fsV (fun i => frW σ (8 * a + i) t) (zN (σ 1 a)) 0))) := by
  have h8 := (P.inv.cl ha).1.2
  refine bs_Sp.of (by decide) rfl ?_
  have loop : ∀ f i, i + f = zN (σ 1 a) → bs_B G (fun _ => True) mX0_firstCellAgainstFree 3 0 0 h 2 [(0, .ref (β 2 a 0)), (1, .int t), (2, .ref (β 0 3 0)), (3, .int (nI i))] [] (cQ h (oI (fsV (fun i => frW σ (8 * a + i) t) f i))) := by
    intro f
    induction f with
    | zero =>
      intro i hi
      refine bs_iload_n (pc' := 3) dX0_firstCellAgainstFree_2 rfl rfl ?_
      refine bs_aload_n (pc' := 4) dX0_firstCellAgainstFree_3 rfl rfl rfl ?_
      refine bs_getf (pc' := 7) kf_X0_17 dX0_firstCellAgainstFree_4 (R.O ha) rfl rfl ?_
      refine bs_alen (pc' := 8) dX0_firstCellAgainstFree_7 (R.aK ha) rfl rfl ?_
      refine bs_icmp_ge (tgt := 33) (pc' := 11) dX0_firstCellAgainstFree_8 rfl rfl (fun _ => ?_) (fun c8 => absurd (nI_le (by omega) (by omega)) c8)
      refine bs_iconst (v := (-1)) (pc' := 34) dX0_firstCellAgainstFree_33 (by decide) rfl ?_
      exact bs_iret dX0_firstCellAgainstFree_34 rfl ⟨rfl, rfl⟩
    | succ f ih =>
      intro i hi
      have hc := oL P ha (show i < zN (σ 1 a) by omega)
      refine bs_iload_n (pc' := 3) dX0_firstCellAgainstFree_2 rfl rfl ?_
      refine bs_aload_n (pc' := 4) dX0_firstCellAgainstFree_3 rfl rfl rfl ?_
      refine bs_getf (pc' := 7) kf_X0_17 dX0_firstCellAgainstFree_4 (R.O ha) rfl rfl ?_
      refine bs_alen (pc' := 8) dX0_firstCellAgainstFree_7 (R.aK ha) rfl rfl ?_
      refine bs_icmp_ge (tgt := 33) (pc' := 11) dX0_firstCellAgainstFree_8 rfl rfl (fun c8 => absurd c8 (nI_ge (by omega) (by omega))) (fun _ => ?_)
      refine bs_aload_n (pc' := 12) dX0_firstCellAgainstFree_11 rfl rfl rfl ?_
      refine bs_getf (pc' := 15) kf_X0_17 dX0_firstCellAgainstFree_12 (R.O ha) rfl rfl ?_
      refine bs_iload_n (pc' := 16) dX0_firstCellAgainstFree_15 rfl rfl ?_
      refine bs_rld (pc' := 17) dX0_firstCellAgainstFree_16 (R.aK ha) (by decide) i rfl ⟨by omega, by omega⟩ _ (rfs_at (show i < zN (σ 1 a) by omega)) rfl ?_
      refine bs_iload_n (pc' := 18) dX0_firstCellAgainstFree_17 rfl rfl ?_
      refine bs_aload_n (pc' := 19) dX0_firstCellAgainstFree_18 rfl rfl rfl ?_
      refine bs_callV (N := mX2_freeViolation) (pc' := 22) dX0_firstCellAgainstFree_19 km_X0_24 ko_X2_freeViolation (rc_freeViolation R P hc) (R.E hc) rfl rfl rfl (by omega) (Nat.le_refl _) (Nat.le_refl _) rfl ?_
      rintro _ _ ⟨rfl, rfl⟩
      refine bs_if_eq (tgt := 27) (pc' := 25) dX0_firstCellAgainstFree_22 rfl rfl (fun c22 => ?_) (fun c22 => ?_)
      · refine bs_iinc (pc' := 30) (lv' := [(0, _), (1, _), (2, _), (3, _)]) dX0_firstCellAgainstFree_27 rfl (nI_i1 i) rfl rfl rfl ?_
        refine bs_goto (tgt := 2) dX0_firstCellAgainstFree_30 rfl ?_
        rw [fsV, if_pos c22]
        exact ih (i + 1) (by omega)
      · refine bs_iload_n (pc' := 26) dX0_firstCellAgainstFree_25 rfl rfl ?_
        exact bs_iret dX0_firstCellAgainstFree_26 rfl ⟨by rw [fsV, if_neg c22]; rfl, rfl⟩
  refine bs_iconst (v := 0) (pc' := 1) dX0_firstCellAgainstFree_0 (by decide) rfl ?_
  refine bs_istore_n (pc' := 2) (lv' := [(0, _), (1, _), (2, _), (3, _)]) dX0_firstCellAgainstFree_1 rfl rfl rfl ?_
  exact loop _ 0 (Nat.zero_add _)
/-- the first violation of f cells from i on, 0 if there is none -/
def fvV (K : Nat → Int32) (f i : Nat) : Int32 := match fsV K f i with
  | some j => K j
  | none => 0
theorem fvV_s {K : Nat → Int32} {f i j : Nat} (q : fsV K f i = some j) : fvV K f i = K j := by unfold fvV; rw [q]
theorem fvV_n {K : Nat → Int32} {f i : Nat} (q : fsV K f i = none) : fvV K f i = 0 := by unfold fvV; rw [q]
theorem fvV_f {K : Nat → Int32} {f i : Nat} (q : ¬ K i = 0) : fvV K (f + 1) i = K i := fvV_s (by rw [fsV, if_neg q])
theorem fvV_t {K : Nat → Int32} {f i : Nat} (q : K i = 0) : fvV K (f + 1) i = fvV K f (i + 1) := by unfold fvV; rw [fsV, if_pos q]
theorem ra_freeViolation {a : Nat} {t : Int32} (R : Rep G h0 β (lk σ κ) h) (P : PI B σ κ) (ha : a < zN (σ 0 0)) : bs_Sp G mX0_freeViolation 3 0 0 [.ref (β 2 a 0), .int t, .ref (β 0 3 0)] h (cQ h (fvV (fun i => frW σ (8 * a + i) t) (zN (σ 1 a)) 0)) := by
  have h8 := (P.inv.cl ha).1.2
  refine bs_Sp.of (by decide) rfl ?_
  have loop : ∀ f i, i + f = zN (σ 1 a) → bs_B G (fun _ => True) mX0_freeViolation 3 0 0 h 2 [(0, .ref (β 2 a 0)), (1, .int t), (2, .ref (β 0 3 0)), (3, .int (nI i))] [] (cQ h (fvV (fun i => frW σ (8 * a + i) t) f i)) := by
    intro f
    induction f with
    | zero =>
      intro i hi
      refine bs_iload_n (pc' := 3) dX0_freeViolation_2 rfl rfl ?_
      refine bs_aload_n (pc' := 4) dX0_freeViolation_3 rfl rfl rfl ?_
      refine bs_getf (pc' := 7) kf_X0_17 dX0_freeViolation_4 (R.O ha) rfl rfl ?_
      refine bs_alen (pc' := 8) dX0_freeViolation_7 (R.aK ha) rfl rfl ?_
      refine bs_icmp_ge (tgt := 38) (pc' := 11) dX0_freeViolation_8 rfl rfl (fun _ => ?_) (fun c8 => absurd (nI_le (by omega) (by omega)) c8)
      refine bs_iconst (v := 0) (pc' := 39) dX0_freeViolation_38 (by decide) rfl ?_
      exact bs_iret dX0_freeViolation_39 rfl ⟨rfl, rfl⟩
    | succ f ih =>
      intro i hi
      have hc := oL P ha (show i < zN (σ 1 a) by omega)
      refine bs_iload_n (pc' := 3) dX0_freeViolation_2 rfl rfl ?_
      refine bs_aload_n (pc' := 4) dX0_freeViolation_3 rfl rfl rfl ?_
      refine bs_getf (pc' := 7) kf_X0_17 dX0_freeViolation_4 (R.O ha) rfl rfl ?_
      refine bs_alen (pc' := 8) dX0_freeViolation_7 (R.aK ha) rfl rfl ?_
      refine bs_icmp_ge (tgt := 38) (pc' := 11) dX0_freeViolation_8 rfl rfl (fun c8 => absurd c8 (nI_ge (by omega) (by omega))) (fun _ => ?_)
      refine bs_aload_n (pc' := 12) dX0_freeViolation_11 rfl rfl rfl ?_
      refine bs_getf (pc' := 15) kf_X0_17 dX0_freeViolation_12 (R.O ha) rfl rfl ?_
      refine bs_iload_n (pc' := 16) dX0_freeViolation_15 rfl rfl ?_
      refine bs_rld (pc' := 17) dX0_freeViolation_16 (R.aK ha) (by decide) i rfl ⟨by omega, by omega⟩ _ (rfs_at (show i < zN (σ 1 a) by omega)) rfl ?_
      refine bs_iload_n (pc' := 18) dX0_freeViolation_17 rfl rfl ?_
      refine bs_aload_n (pc' := 19) dX0_freeViolation_18 rfl rfl rfl ?_
      refine bs_callV (N := mX2_freeViolation) (pc' := 22) dX0_freeViolation_19 km_X0_24 ko_X2_freeViolation (rc_freeViolation R P hc) (R.E hc) rfl rfl rfl (by omega) (Nat.le_refl _) (Nat.le_refl _) rfl ?_
      rintro _ _ ⟨rfl, rfl⟩
      refine bs_istore (pc' := 24) (lv' := [(0, _), (1, _), (2, _), (3, _), (4, _)]) dX0_freeViolation_22 rfl rfl rfl ?_
      refine bs_iload (pc' := 26) dX0_freeViolation_24 rfl rfl ?_
      refine bs_if_eq (tgt := 32) (pc' := 29) dX0_freeViolation_26 rfl rfl (fun c26 => ?_) (fun c26 => ?_)
      · refine bs_iinc (pc' := 35) (lv' := [(0, _), (1, _), (2, _), (3, _), (4, _)]) dX0_freeViolation_32 rfl (nI_i1 i) rfl rfl rfl ?_
        refine bs_goto (tgt := 2) dX0_freeViolation_35 rfl ?_
        rw [fvV_t (K := fun i => frW σ (8 * a + i) t) c26]
        refine bs_sub (lv' := [(0, _), (1, _), (2, _), (3, _)]) [0, 1, 2, 3] rfl ?_
        exact ih (i + 1) (by omega)
      · refine bs_iload (pc' := 31) dX0_freeViolation_29 rfl rfl ?_
        exact bs_iret dX0_freeViolation_31 rfl ⟨by rw [fvV_f (K := fun i => frW σ (8 * a + i) t) c26], rfl⟩
  refine bs_iconst (v := 0) (pc' := 1) dX0_freeViolation_0 (by decide) rfl ?_
  refine bs_istore_n (pc' := 2) (lv' := [(0, _), (1, _), (2, _), (3, _)]) dX0_freeViolation_1 rfl rfl rfl ?_
  exact loop _ 0 (Nat.zero_add _)
/-- of f cells from i on: how many live for a tag -/
def lvC (σ : MS) (a : Nat) (t : Int32) : Nat → Nat → Nat
  | 0, _ => 0
  | f + 1, i => (if (gr σ (8 * a + i) t false).isSome then 1 else 0) + lvC σ a t f (i + 1)
theorem ra_cellsAlive {a : Nat} {t : Int32} (R : Rep G h0 β (lk σ κ) h) (P : PI B σ κ) (ha : a < zN (σ 0 0)) : bs_Sp G mX0_cellsAliveFor 1 0 0 [.ref (β 2 a 0), .int t] h (cQ h (nI (if σ 2 a = 0 then lvC σ a t (zN (σ 1 a)) 0 else 0))) := by
  have h8 := (P.inv.cl ha).1.2
  by_cases hf : σ 2 a = 0
  · rw [if_pos hf]
    refine bs_Sp.of (by decide) rfl ?_
    have loop : ∀ f i n, i + f = zN (σ 1 a) → bs_B G (fun _ => True) mX0_cellsAliveFor 1 0 0 h 13 [(0, .ref (β 2 a 0)), (1, .int t), (2, .int (nI n)), (3, .int (nI i))] [] (cQ h (nI (n + lvC σ a t f i))) := by
      intro f
      induction f with
      | zero =>
        intro i n hi
        refine bs_iload_n (pc' := 14) dX0_cellsAliveFor_13 rfl rfl ?_
        refine bs_aload_n (pc' := 15) dX0_cellsAliveFor_14 rfl rfl rfl ?_
        refine bs_getf (pc' := 18) kf_X0_17 dX0_cellsAliveFor_15 (R.O ha) rfl rfl ?_
        refine bs_alen (pc' := 19) dX0_cellsAliveFor_18 (R.aK ha) rfl rfl ?_
        refine bs_icmp_ge (tgt := 45) (pc' := 22) dX0_cellsAliveFor_19 rfl rfl (fun _ => ?_) (fun c19 => absurd (nI_le (by omega) (by omega)) c19)
        refine bs_iload_n (pc' := 46) dX0_cellsAliveFor_45 rfl rfl ?_
        exact bs_iret dX0_cellsAliveFor_46 rfl ⟨rfl, rfl⟩
      | succ f ih =>
        intro i n hi
        have hc := oL P ha (show i < zN (σ 1 a) by omega)
        have hgl : ∀ g, gr σ (8 * a + i) t false = some g → g < 12 := fun g hg => by
          have h1 := grf_lt hg
          have h2 := (P.inv.sz (P.c96 hc).2.1).2
          omega
        refine bs_iload_n (pc' := 14) dX0_cellsAliveFor_13 rfl rfl ?_
        refine bs_aload_n (pc' := 15) dX0_cellsAliveFor_14 rfl rfl rfl ?_
        refine bs_getf (pc' := 18) kf_X0_17 dX0_cellsAliveFor_15 (R.O ha) rfl rfl ?_
        refine bs_alen (pc' := 19) dX0_cellsAliveFor_18 (R.aK ha) rfl rfl ?_
        refine bs_icmp_ge (tgt := 45) (pc' := 22) dX0_cellsAliveFor_19 rfl rfl (fun c19 => absurd c19 (nI_ge (by omega) (by omega))) (fun _ => ?_)
        refine bs_aload_n (pc' := 23) dX0_cellsAliveFor_22 rfl rfl rfl ?_
        refine bs_getf (pc' := 26) kf_X0_17 dX0_cellsAliveFor_23 (R.O ha) rfl rfl ?_
        refine bs_iload_n (pc' := 27) dX0_cellsAliveFor_26 rfl rfl ?_
        refine bs_rld (pc' := 28) dX0_cellsAliveFor_27 (R.aK ha) (by decide) i rfl ⟨by omega, by omega⟩ _ (rfs_at (show i < zN (σ 1 a) by omega)) rfl ?_
        refine bs_iload_n (pc' := 29) dX0_cellsAliveFor_28 rfl rfl ?_
        refine bs_callV (N := mX2_grantOfRead) (pc' := 32) dX0_cellsAliveFor_29 km_X0_32 ko_X2_grantOfRead (rc_grantOfRead R P hc) (R.E hc) rfl rfl rfl (by omega) (Nat.le_refl _) (Nat.le_refl _) rfl ?_
        rintro _ _ ⟨rfl, rfl⟩
        refine bs_iconst (v := (-1)) (pc' := 33) dX0_cellsAliveFor_32 (by decide) rfl ?_
        refine bs_icmp_eq (tgt := 39) (pc' := 36) dX0_cellsAliveFor_33 rfl rfl (fun c33 => ?_) (fun c33 => ?_)
        · refine bs_iinc (pc' := 42) (lv' := [(0, _), (1, _), (2, _), (3, _)]) dX0_cellsAliveFor_39 rfl (nI_i1 i) rfl rfl rfl ?_
          refine bs_goto (tgt := 13) dX0_cellsAliveFor_42 rfl ?_
          cases hg : gr σ (8 * a + i) t false with
          | none =>
            rw [hg] at c33
            first
              | exact absurd rfl c33
              | (have := ih (i + 1) n (by omega)
                 rw [lvC, hg, show n + ((if (none : Option Nat).isSome = true then 1 else 0) + lvC σ a t f (i + 1)) = n + lvC σ a t f (i + 1) by rw [if_neg (by decide), Nat.zero_add]]
                 exact this)
          | some g =>
            rw [hg] at c33
            first
              | exact absurd c33 (nI_ne_m1 (by have := hgl g hg; omega))
              | (have := ih (i + 1) (n + 1) (by omega)
                 rw [lvC, hg, show n + ((if (some g : Option Nat).isSome = true then 1 else 0) + lvC σ a t f (i + 1)) = n + 1 + lvC σ a t f (i + 1) by rw [if_pos (show (some g).isSome = true from rfl), Nat.add_assoc]]
                 exact this)
        · refine bs_iinc (pc' := 39) (lv' := [(0, _), (1, _), (2, _), (3, _)]) dX0_cellsAliveFor_36 rfl (nI_i1 n) rfl rfl rfl ?_
          refine bs_iinc (pc' := 42) (lv' := [(0, _), (1, _), (2, _), (3, _)]) dX0_cellsAliveFor_39 rfl (nI_i1 i) rfl rfl rfl ?_
          refine bs_goto (tgt := 13) dX0_cellsAliveFor_42 rfl ?_
          cases hg : gr σ (8 * a + i) t false with
          | none =>
            rw [hg] at c33
            first
              | exact absurd rfl c33
              | (have := ih (i + 1) n (by omega)
                 rw [lvC, hg, show n + ((if (none : Option Nat).isSome = true then 1 else 0) + lvC σ a t f (i + 1)) = n + lvC σ a t f (i + 1) by rw [if_neg (by decide), Nat.zero_add]]
                 exact this)
          | some g =>
            rw [hg] at c33
            first
              | exact absurd c33 (nI_ne_m1 (by have := hgl g hg; omega))
              | (have := ih (i + 1) (n + 1) (by omega)
                 rw [lvC, hg, show n + ((if (some g : Option Nat).isSome = true then 1 else 0) + lvC σ a t f (i + 1)) = n + 1 + lvC σ a t f (i + 1) by rw [if_pos (show (some g).isSome = true from rfl), Nat.add_assoc]]
                 exact this)
    refine bs_aload_n (pc' := 1) dX0_cellsAliveFor_0 rfl rfl rfl ?_
    refine bs_getf (pc' := 4) kf_X0_28 dX0_cellsAliveFor_1 (R.O ha) rfl rfl ?_
    refine bs_if_eq (tgt := 9) (pc' := 7) dX0_cellsAliveFor_4 rfl rfl (fun _ => ?_) (fun c4 => absurd hf c4)
    refine bs_iconst (v := 0) (pc' := 10) dX0_cellsAliveFor_9 (by decide) rfl ?_
    refine bs_istore_n (pc' := 11) (lv' := [(0, _), (1, _), (2, _)]) dX0_cellsAliveFor_10 rfl rfl rfl ?_
    refine bs_iconst (v := 0) (pc' := 12) dX0_cellsAliveFor_11 (by decide) rfl ?_
    refine bs_istore_n (pc' := 13) (lv' := [(0, _), (1, _), (2, _), (3, _)]) dX0_cellsAliveFor_12 rfl rfl rfl ?_
    have := loop (zN (σ 1 a)) 0 0 (Nat.zero_add _)
    rw [Nat.zero_add] at this
    exact this
  · rw [if_neg hf]
    refine bs_Sp.of (by decide) rfl ?_
    refine bs_aload_n (pc' := 1) dX0_cellsAliveFor_0 rfl rfl rfl ?_
    refine bs_getf (pc' := 4) kf_X0_28 dX0_cellsAliveFor_1 (R.O ha) rfl rfl ?_
    refine bs_if_eq (tgt := 9) (pc' := 7) dX0_cellsAliveFor_4 rfl rfl (fun c4 => absurd c4 hf) (fun _ => ?_)
    refine bs_iconst (v := 0) (pc' := 8) dX0_cellsAliveFor_7 (by decide) rfl ?_
    exact bs_iret dX0_cellsAliveFor_8 rfl ⟨rfl, rfl⟩
theorem ra_mixedInto {a : Nat} {w : Int64} (R : Rep G h0 β (lk σ κ) h) (P : PI B σ κ) (ha : a < zN (σ 0 0)) : bs_Sp G mX0_mixedInto 2 0 0 [.ref (β 2 a 0), .long w, .ref (β 0 3 0)] h (fun r h' => r = some (.long (d_al1 σ a w)) ∧ h' = h) := by
  have h8 := (P.inv.cl ha).1.2
  have h10 : a < 10 := by have := P.inv.nA.2; omega
  have e2 : σ 2 a = bI (decide (¬ σ 2 a = 0)) := by
    rcases P.frd a h10 with q | q
    · rw [q]; decide
    · rw [q]; decide
  have e3 : (bI (decide (¬ σ 2 a = 0))).toInt64 = b64 (decide (¬ σ 2 a = 0)) := by cases decide (¬ σ 2 a = 0) <;> decide
  refine bs_Sp.of (by decide) rfl ?_
  have loop : ∀ f i b, i + f = zN (σ 1 a) → bs_B G (fun _ => True) mX0_mixedInto 2 0 0 h 30 [(0, .ref (β 2 a 0)), (1, .long w), (3, .ref (β 0 3 0)), (4, .long b), (6, .int (nI i))] [] (fun r h' => r = some (.long (d_cls σ a f i b)) ∧ h' = h) := by
    intro f
    induction f with
    | zero =>
      intro i b hi
      refine bs_iload (pc' := 32) dX0_mixedInto_30 rfl rfl ?_
      refine bs_aload_n (pc' := 33) dX0_mixedInto_32 rfl rfl rfl ?_
      refine bs_getf (pc' := 36) kf_X0_17 dX0_mixedInto_33 (R.O ha) rfl rfl ?_
      refine bs_alen (pc' := 37) dX0_mixedInto_36 (R.aK ha) rfl rfl ?_
      refine bs_icmp_ge (tgt := 61) (pc' := 40) dX0_mixedInto_37 rfl rfl (fun _ => ?_) (fun c37 => absurd (nI_le (by omega) (by omega)) c37)
      refine bs_lload (pc' := 63) dX0_mixedInto_61 rfl rfl ?_
      exact bs_lret dX0_mixedInto_63 rfl ⟨rfl, rfl⟩
    | succ f ih =>
      intro i b hi
      have hc := oL P ha (show i < zN (σ 1 a) by omega)
      refine bs_iload (pc' := 32) dX0_mixedInto_30 rfl rfl ?_
      refine bs_aload_n (pc' := 33) dX0_mixedInto_32 rfl rfl rfl ?_
      refine bs_getf (pc' := 36) kf_X0_17 dX0_mixedInto_33 (R.O ha) rfl rfl ?_
      refine bs_alen (pc' := 37) dX0_mixedInto_36 (R.aK ha) rfl rfl ?_
      refine bs_icmp_ge (tgt := 61) (pc' := 40) dX0_mixedInto_37 rfl rfl (fun c37 => absurd c37 (nI_ge (by omega) (by omega))) (fun _ => ?_)
      refine bs_aload_n (pc' := 41) dX0_mixedInto_40 rfl rfl rfl ?_
      refine bs_getf (pc' := 44) kf_X0_17 dX0_mixedInto_41 (R.O ha) rfl rfl ?_
      refine bs_iload (pc' := 46) dX0_mixedInto_44 rfl rfl ?_
      refine bs_rld (pc' := 47) dX0_mixedInto_46 (R.aK ha) (by decide) i rfl ⟨by omega, by omega⟩ _ (rfs_at (show i < zN (σ 1 a) by omega)) rfl ?_
      refine bs_lload (pc' := 49) dX0_mixedInto_47 rfl rfl ?_
      refine bs_aload_n (pc' := 50) dX0_mixedInto_49 rfl rfl rfl ?_
      refine bs_callV (N := mX2_mixedInto) (pc' := 53) dX0_mixedInto_50 km_X0_44 ko_X2_mixedInto (rc_mixedInto R P hc) (R.E hc) rfl rfl rfl (by omega) (Nat.le_refl _) (Nat.le_refl _) rfl ?_
      rintro _ _ ⟨rfl, rfl⟩
      refine bs_lstore (pc' := 55) (lv' := [(0, _), (1, _), (3, _), (4, _), (6, _)]) dX0_mixedInto_53 rfl rfl rfl ?_
      refine bs_iinc (pc' := 58) (lv' := [(0, _), (1, _), (3, _), (4, _), (6, _)]) dX0_mixedInto_55 rfl (nI_i1 i) rfl rfl rfl ?_
      refine bs_goto (tgt := 30) dX0_mixedInto_58 rfl ?_
      exact ih (i + 1) _ (by omega)
  refine bs_lload_n (pc' := 1) dX0_mixedInto_0 rfl rfl ?_
  refine bs_aload_n (pc' := 2) dX0_mixedInto_1 rfl rfl rfl ?_
  refine bs_getf (pc' := 5) kf_X0_17 dX0_mixedInto_2 (R.O ha) rfl rfl ?_
  refine bs_alen (pc' := 6) dX0_mixedInto_5 (R.aK ha) rfl rfl ?_
  refine bs_i2l (pc' := 7) dX0_mixedInto_6 rfl ?_
  refine bs_callS (N := mX5_mixed) (pc' := 10) dX0_mixedInto_7 km_X0_36 ko_X5_mixed sc_mixed rfl rfl rfl (by omega) (Nat.le_refl _) (Nat.le_refl _) rfl ?_
  rintro _ _ ⟨rfl, rfl⟩
  refine bs_lstore (pc' := 12) (lv' := [(0, _), (1, _), (3, _), (4, _)]) dX0_mixedInto_10 rfl rfl rfl ?_
  refine bs_lload (pc' := 14) dX0_mixedInto_12 rfl rfl ?_
  refine bs_aload_n (pc' := 15) dX0_mixedInto_14 rfl rfl rfl ?_
  refine bs_getf (pc' := 18) kf_X0_28 dX0_mixedInto_15 (R.O ha) rfl rfl ?_
  refine bs_topi _ e2 ?_
  refine bs_callS (N := mX5_asNumber) (pc' := 21) dX0_mixedInto_18 km_X0_40 ko_X5_asNumber sc_asNumber rfl rfl rfl (by omega) (Nat.le_refl _) (Nat.le_refl _) rfl ?_
  rintro _ _ ⟨rfl, rfl⟩
  refine bs_i2l (pc' := 22) dX0_mixedInto_21 rfl ?_
  refine bs_callS (N := mX5_mixed) (pc' := 25) dX0_mixedInto_22 km_X0_36 ko_X5_mixed sc_mixed rfl rfl rfl (by omega) (Nat.le_refl _) (Nat.le_refl _) rfl ?_
  rintro _ _ ⟨rfl, rfl⟩
  refine bs_lstore (pc' := 27) (lv' := [(0, _), (1, _), (3, _), (4, _)]) dX0_mixedInto_25 rfl rfl rfl ?_
  refine bs_iconst (v := 0) (pc' := 28) dX0_mixedInto_27 (by decide) rfl ?_
  refine bs_istore (pc' := 30) (lv' := [(0, _), (1, _), (3, _), (4, _), (6, _)]) dX0_mixedInto_28 rfl rfl rfl ?_
  have e1 : (σ 1 a).toInt64 = (nI (zN (σ 1 a))).toInt64 := by rw [← (P.inv.cl ha).1.1]
  rw [d_al1, ← e3, e1]
  exact loop (zN (σ 1 a)) 0 _ (Nat.zero_add _)
/-! free, enter, leave -/
theorem r_performFree {p : Int32} (R : Rep G h0 β (lk σ κ) h) (P : PI B σ κ) : bs_Sp G mX5_performFree 4 0 0 [.ref (β 0 0 0), .int p] h (fun v h' => v = some (.int (k_free σ p).1) ∧ Rep G h0 β (lk (k_free σ p).2 κ) h') := by
  have h60 := P.inv.nP.2
  by_cases hp : inb p (zN (σ 8 0)) = true
  · obtain ⟨j, hj, rfl⟩ := inb_t (by omega) hp
    have ha := (P.inv.ow hj).2
    have h8 := (P.inv.cl ha).1.2
    have h1 := (P.inv.cl ha).2
    have ek : k_free σ (nI j) = match fsV (frK σ j) (zN (σ 1 (zN (σ 9 j)))) 0 with
      | some i => (-5, vio σ (frK σ j i) (nI i))
      | none => (σ 1 (zN (σ 9 j)), ms_u σ 2 (zN (σ 9 j)) 1) := by
      unfold k_free
      rw [if_pos hp, zN_nI (by omega)]
      cases fsV (frK σ j) (zN (σ 1 (zN (σ 9 j)))) 0 <;> rfl
    rw [ek]
    by_cases hf : σ 2 (zN (σ 9 j)) = 0
    · have eK : frK σ j = fun i => frW σ (8 * zN (σ 9 j) + i) (nI j) := by
        funext i
        rw [frK_W, if_neg (fun z => z hf)]
        rfl
      rw [eK]
      cases hv : fsV (fun i => frW σ (8 * zN (σ 9 j) + i) (nI j)) (zN (σ 1 (zN (σ 9 j)))) 0 with
      | none =>
        refine bs_Sp.of (by decide) rfl ?_
        refine bs_aload_n (pc' := 1) dX5_performFree_0 rfl rfl rfl ?_
        refine bs_iload_n (pc' := 2) dX5_performFree_1 rfl rfl ?_
        refine bs_callV (N := mX5_pointerAt) (pc' := 5) dX5_performFree_2 km_X5_75 ko_X5_pointerAt (r_pointerAt R P hj) R.M rfl rfl rfl (by omega) (Nat.le_refl _) (Nat.le_refl _) rfl ?_
        rintro _ _ ⟨rfl, rfl⟩
        refine bs_astore_n (pc' := 6) (lv' := [(0, _), (1, _), (2, _)]) dX5_performFree_5 rfl rfl rfl rfl ?_
        refine bs_aload_n (pc' := 7) dX5_performFree_6 rfl rfl rfl ?_
        refine bs_ifnonnull (tgt := 13) dX5_performFree_7 rfl ?_
        refine bs_aload_n (pc' := 14) dX5_performFree_13 rfl rfl rfl ?_
        refine bs_getf (pc' := 17) kf_X5_83 dX5_performFree_14 (R.P hj) rfl rfl ?_
        refine bs_astore_n (pc' := 18) (lv' := [(0, _), (1, _), (2, _), (3, _)]) dX5_performFree_17 rfl rfl rfl rfl ?_
        refine bs_aload_n (pc' := 19) dX5_performFree_18 rfl rfl rfl ?_
        refine bs_getf (pc' := 22) kf_X5_87 dX5_performFree_19 (R.O ha) rfl rfl ?_
        refine bs_if_eq (tgt := 32) (pc' := 25) dX5_performFree_22 rfl rfl (fun _ => ?_) (fun c22 => absurd hf c22)
        refine bs_aload_n (pc' := 33) dX5_performFree_32 rfl rfl rfl ?_
        refine bs_iload_n (pc' := 34) dX5_performFree_33 rfl rfl ?_
        refine bs_aload_n (pc' := 35) dX5_performFree_34 rfl rfl rfl ?_
        refine bs_getf (pc' := 38) kf_X5_24 dX5_performFree_35 R.M rfl rfl ?_
        refine bs_callV (N := mX0_freeViolation) (pc' := 41) dX5_performFree_38 km_X5_100 ko_X0_freeViolation (ra_freeViolation R P ha) (R.O ha) rfl rfl rfl (by omega) (Nat.le_refl _) (Nat.le_refl _) rfl ?_
        rintro _ _ ⟨rfl, rfl⟩
        refine bs_istore (pc' := 43) (lv' := [(0, _), (1, _), (2, _), (3, _), (4, _)]) dX5_performFree_41 rfl rfl rfl ?_
        refine bs_iload (pc' := 45) dX5_performFree_43 rfl rfl ?_
        refine bs_if_eq (tgt := 64) (pc' := 48) dX5_performFree_45 rfl rfl (fun _ => ?_) (fun c45 => absurd (fvV_n hv) c45)
        refine bs_aload_n (pc' := 65) dX5_performFree_64 rfl rfl rfl ?_
        refine bs_iconst (v := 1) (pc' := 66) dX5_performFree_65 (by decide) rfl ?_
        refine rp_fr (pc' := 69) R ha kf_X5_87 dX5_performFree_66 rfl ?_
        clear R
        intro h R
        refine bs_aload_n (pc' := 70) dX5_performFree_69 rfl rfl rfl ?_
        refine bs_getf (pc' := 73) kf_X5_219 dX5_performFree_70 (R.O ha) rfl rfl ?_
        refine bs_alen (pc' := 74) dX5_performFree_73 (R.aK ha) rfl rfl ?_
        exact bs_iret dX5_performFree_74 rfl ⟨by rw [(P.inv.cl ha).1.1]; rfl, R⟩
      | some i =>
        have hi := fsV_lt hv
        have hc := oL P ha (show i < zN (σ 1 (zN (σ 9 j))) by omega)
        refine bs_Sp.of (by decide) rfl ?_
        refine bs_aload_n (pc' := 1) dX5_performFree_0 rfl rfl rfl ?_
        refine bs_iload_n (pc' := 2) dX5_performFree_1 rfl rfl ?_
        refine bs_callV (N := mX5_pointerAt) (pc' := 5) dX5_performFree_2 km_X5_75 ko_X5_pointerAt (r_pointerAt R P hj) R.M rfl rfl rfl (by omega) (Nat.le_refl _) (Nat.le_refl _) rfl ?_
        rintro _ _ ⟨rfl, rfl⟩
        refine bs_astore_n (pc' := 6) (lv' := [(0, _), (1, _), (2, _)]) dX5_performFree_5 rfl rfl rfl rfl ?_
        refine bs_aload_n (pc' := 7) dX5_performFree_6 rfl rfl rfl ?_
        refine bs_ifnonnull (tgt := 13) dX5_performFree_7 rfl ?_
        refine bs_aload_n (pc' := 14) dX5_performFree_13 rfl rfl rfl ?_
        refine bs_getf (pc' := 17) kf_X5_83 dX5_performFree_14 (R.P hj) rfl rfl ?_
        refine bs_astore_n (pc' := 18) (lv' := [(0, _), (1, _), (2, _), (3, _)]) dX5_performFree_17 rfl rfl rfl rfl ?_
        refine bs_aload_n (pc' := 19) dX5_performFree_18 rfl rfl rfl ?_
        refine bs_getf (pc' := 22) kf_X5_87 dX5_performFree_19 (R.O ha) rfl rfl ?_
        refine bs_if_eq (tgt := 32) (pc' := 25) dX5_performFree_22 rfl rfl (fun _ => ?_) (fun c22 => absurd hf c22)
        refine bs_aload_n (pc' := 33) dX5_performFree_32 rfl rfl rfl ?_
        refine bs_iload_n (pc' := 34) dX5_performFree_33 rfl rfl ?_
        refine bs_aload_n (pc' := 35) dX5_performFree_34 rfl rfl rfl ?_
        refine bs_getf (pc' := 38) kf_X5_24 dX5_performFree_35 R.M rfl rfl ?_
        refine bs_callV (N := mX0_freeViolation) (pc' := 41) dX5_performFree_38 km_X5_100 ko_X0_freeViolation (ra_freeViolation R P ha) (R.O ha) rfl rfl rfl (by omega) (Nat.le_refl _) (Nat.le_refl _) rfl ?_
        rintro _ _ ⟨rfl, rfl⟩
        rw [fvV_s hv]
        refine bs_istore (pc' := 43) (lv' := [(0, _), (1, _), (2, _), (3, _), (4, _)]) dX5_performFree_41 rfl rfl rfl ?_
        refine bs_iload (pc' := 45) dX5_performFree_43 rfl rfl ?_
        refine bs_if_eq (tgt := 64) (pc' := 48) dX5_performFree_45 rfl rfl (fun c45 => absurd c45 hi.2.2) (fun _ => ?_)
        refine bs_aload_n (pc' := 49) dX5_performFree_48 rfl rfl rfl ?_
        refine bs_iload (pc' := 51) dX5_performFree_49 rfl rfl ?_
        refine bs_aload_n (pc' := 52) dX5_performFree_51 rfl rfl rfl ?_
        refine bs_iload_n (pc' := 53) dX5_performFree_52 rfl rfl ?_
        refine bs_aload_n (pc' := 54) dX5_performFree_53 rfl rfl rfl ?_
        refine bs_getf (pc' := 57) kf_X5_24 dX5_performFree_54 R.M rfl rfl ?_
        refine bs_callV (N := mX0_firstCellAgainstFree) (pc' := 60) dX5_performFree_57 km_X5_237 ko_X0_firstCellAgainstFree (ra_firstCell R P ha) (R.O ha) rfl rfl rfl (by omega) (Nat.le_refl _) (Nat.le_refl _) rfl ?_
        rintro _ _ ⟨rfl, rfl⟩
        rw [hv]
        refine bs_callV (N := mX5_violated) (pc' := 63) dX5_performFree_60 km_X5_202 ko_X5_violated (r_violated R) R.M rfl rfl rfl (by omega) (Nat.le_refl _) (Nat.le_refl _) rfl ?_
        rintro _ h ⟨rfl, R⟩
        exact bs_iret dX5_performFree_63 rfl ⟨rfl, R⟩
    · have e0 : fsV (frK σ j) (zN (σ 1 (zN (σ 9 j)))) 0 = some 0 := by
        obtain ⟨m, hm⟩ : ∃ m, zN (σ 1 (zN (σ 9 j))) = m + 1 := ⟨zN (σ 1 (zN (σ 9 j))) - 1, by omega⟩
        rw [hm, fsV, if_neg]
        rw [frK_W, if_pos hf]
        decide
      rw [e0]
      have e3 : frK σ j 0 = 3 := by rw [frK_W, if_pos hf]
      refine bs_Sp.of (by decide) rfl ?_
      refine bs_aload_n (pc' := 1) dX5_performFree_0 rfl rfl rfl ?_
      refine bs_iload_n (pc' := 2) dX5_performFree_1 rfl rfl ?_
      refine bs_callV (N := mX5_pointerAt) (pc' := 5) dX5_performFree_2 km_X5_75 ko_X5_pointerAt (r_pointerAt R P hj) R.M rfl rfl rfl (by omega) (Nat.le_refl _) (Nat.le_refl _) rfl ?_
      rintro _ _ ⟨rfl, rfl⟩
      refine bs_astore_n (pc' := 6) (lv' := [(0, _), (1, _), (2, _)]) dX5_performFree_5 rfl rfl rfl rfl ?_
      refine bs_aload_n (pc' := 7) dX5_performFree_6 rfl rfl rfl ?_
      refine bs_ifnonnull (tgt := 13) dX5_performFree_7 rfl ?_
      refine bs_aload_n (pc' := 14) dX5_performFree_13 rfl rfl rfl ?_
      refine bs_getf (pc' := 17) kf_X5_83 dX5_performFree_14 (R.P hj) rfl rfl ?_
      refine bs_astore_n (pc' := 18) (lv' := [(0, _), (1, _), (2, _), (3, _)]) dX5_performFree_17 rfl rfl rfl rfl ?_
      refine bs_aload_n (pc' := 19) dX5_performFree_18 rfl rfl rfl ?_
      refine bs_getf (pc' := 22) kf_X5_87 dX5_performFree_19 (R.O ha) rfl rfl ?_
      refine bs_if_eq (tgt := 32) (pc' := 25) dX5_performFree_22 rfl rfl (fun c22 => absurd c22 hf) (fun _ => ?_)
      refine bs_aload_n (pc' := 26) dX5_performFree_25 rfl rfl rfl ?_
      refine bs_iconst (v := 3) (pc' := 27) dX5_performFree_26 (by decide) rfl ?_
      refine bs_iconst (v := 0) (pc' := 28) dX5_performFree_27 (by decide) rfl ?_
      refine bs_callV (N := mX5_violated) (pc' := 31) dX5_performFree_28 km_X5_202 ko_X5_violated (r_violated R) R.M rfl rfl rfl (by omega) (Nat.le_refl _) (Nat.le_refl _) rfl ?_
      rintro _ h ⟨rfl, R⟩
      exact bs_iret dX5_performFree_31 rfl ⟨rfl, by show Rep G h0 β (lk (vio σ (frK σ j 0) (nI 0)) κ) _; rw [e3]; exact R⟩
  · have ek : k_free σ p = (-2, σ) := by
      unfold k_free
      rw [if_neg hp]
    rw [ek]
    refine bs_Sp.of (by decide) rfl ?_
    refine bs_aload_n (pc' := 1) dX5_performFree_0 rfl rfl rfl ?_
    refine bs_iload_n (pc' := 2) dX5_performFree_1 rfl rfl ?_
    refine bs_callV (N := mX5_pointerAt) (pc' := 5) dX5_performFree_2 km_X5_75 ko_X5_pointerAt (r_pointerAtN R P (by simpa using hp)) R.M rfl rfl rfl (by omega) (Nat.le_refl _) (Nat.le_refl _) rfl ?_
    rintro _ _ ⟨rfl, rfl⟩
    refine bs_astore_n (pc' := 6) (lv' := [(0, _), (1, _), (2, _)]) dX5_performFree_5 rfl rfl rfl rfl ?_
    refine bs_aload_n (pc' := 7) dX5_performFree_6 rfl rfl rfl ?_
    refine bs_ifnonnullN (pc' := 10) dX5_performFree_7 rfl ?_
    refine bs_bipush (v := (-2)) (pc' := 12) dX5_performFree_10 (by decide) rfl ?_
    exact bs_iret dX5_performFree_12 rfl ⟨rfl, R⟩
theorem PI_free {p : Int32} (P : PI B σ κ) : PI B (k_free σ p).2 κ := by
  unfold k_free
  split
  · next hp =>
    have h60 := P.inv.nP.2
    obtain ⟨j, hj, rfl⟩ := inb_t (by omega) hp
    rw [zN_nI (by omega)]
    cases fsV (frK σ j) (zN (σ 1 (zN (σ 9 j)))) 0 with
    | some i => exact P.of (fun k hk => vio_k (by omega))
    | none => exact PI_2 P (P.inv.ow hj).2
  · exact P
def k_entK (σ κ : MS) : MS := if σ 11 0 = 5 then κ else entK κ (zN (σ 11 0))
theorem r_performEnter (R : Rep G h0 β (lk σ κ) h) (P : PI B σ κ) (hB : B < 1000000) : bs_Sp G mX5_performEnter 1 0 0 [.ref (β 0 0 0)] h (fun v h' => v = some (.int (k_enter σ).1) ∧ PI (B + 1) (k_enter σ).2 (k_entK σ κ) ∧ Rep G h0 β (lk (k_enter σ).2 (k_entK σ κ)) h') := by
  have h5 := P.inv.dp
  have hs := sc_enter (h := h) (G := G) (ser := κ 23) (L := κ 16 0) R.nk h5.2
  rw [← h5.1] at hs
  have hck : ck2 G h (β 0 3 0) (β 0 4 0) (κ 23) (σ 11 0) (κ 16 0) = h := R.ck
  rw [hck] at hs
  unfold k_enter k_entK
  by_cases hh : σ 11 0 = 5
  · have hz : ¬ zN (σ 11 0) < 5 := by rw [hh]; decide
    simp only [if_neg hz] at hs
    rw [if_pos hh, if_pos hh]
    refine bs_Sp.of (by decide) rfl ?_
    refine bs_aload_n (pc' := 1) dX5_performEnter_0 rfl rfl rfl ?_
    refine bs_getf (pc' := 4) kf_X5_24 dX5_performEnter_1 R.M rfl rfl ?_
    refine bs_callV (N := mX1_enter) (pc' := 7) dX5_performEnter_4 km_X5_240 ko_X1_enter hs R.C1 rfl rfl rfl (by omega) (Nat.le_refl _) (Nat.le_refl _) rfl ?_
    rintro _ _ ⟨rfl, rfl⟩
    refine bs_if_eq (tgt := 20) (pc' := 10) dX5_performEnter_7 rfl rfl (fun _ => ?_) (fun c7 => absurd rfl c7)
    refine bs_bipush (v := (-4)) (pc' := 22) dX5_performEnter_20 (by decide) rfl ?_
    exact bs_iret dX5_performEnter_22 rfl ⟨rfl, P.up (Nat.le_succ _), R⟩
  · have hz : zN (σ 11 0) < 5 := by
      have h5' := h5.2
      have : zN (σ 11 0) ≠ 5 := fun e => hh (by rw [h5.1, e]; rfl)
      omega
    simp only [if_pos hz] at hs
    rw [if_neg hh, if_neg hh]
    have P1 := PI_ent P hB hz
    have ed : nI (zN (σ 11 0) + 1) = σ 11 0 + 1 := (zN_s h5 (by decide)).1.symm
    refine bs_Sp.of (by decide) rfl ?_
    refine bs_aload_n (pc' := 1) dX5_performEnter_0 rfl rfl rfl ?_
    refine bs_getf (pc' := 4) kf_X5_24 dX5_performEnter_1 R.M rfl rfl ?_
    refine bs_callV (N := mX1_enter) (pc' := 7) dX5_performEnter_4 km_X5_240 ko_X1_enter hs R.C1 rfl rfl rfl (by omega) (Nat.le_refl _) (Nat.le_refl _) rfl ?_
    rintro _ h ⟨rfl, rfl⟩
    have R : Rep G h0 β (lk (ms_u σ 11 0 (σ 11 0 + 1)) (entK κ (zN (σ 11 0)))) _ := R.cal (υ' := lk (ms_u σ 11 0 (σ 11 0 + 1)) (entK κ (zN (σ 11 0)))) (fun k hk => by
      by_cases q : k = 7 ∨ k = 16 ∨ 19 ≤ k
      · rw [lk_o q, lk_o q]
        unfold entK
        rw [ms_u_n (by omega), ms_u_n (by omega)]
      · rw [lk_s q, lk_s q, ms_u_n (by omega)])
    rw [ed]
    refine bs_if_eq (tgt := 20) (pc' := 10) dX5_performEnter_7 rfl rfl (fun c7 => absurd c7 (by decide)) (fun _ => ?_)
    refine bs_aload_n (pc' := 11) dX5_performEnter_10 rfl rfl rfl ?_
    refine bs_getf (pc' := 14) kf_X5_24 dX5_performEnter_11 R.M rfl rfl ?_
    refine bs_getf (pc' := 17) kf_X5_149 dX5_performEnter_14 R.C1 rfl rfl ?_
    refine bs_goto (tgt := 22) dX5_performEnter_17 rfl ?_
    exact bs_iret dX5_performEnter_22 rfl ⟨rfl, P1, R⟩
theorem r_performLeave (R : Rep G h0 β (lk σ κ) h) (P : PI B σ κ) : bs_Sp G mX5_performLeave 1 0 0 [.ref (β 0 0 0)] h (fun v h' => v = some (.int (k_leave σ).1) ∧ PI B (k_leave σ).2 κ ∧ Rep G h0 β (lk (k_leave σ).2 κ) h') := by
  have h5 := P.inv.dp
  have hs := sc_leave (h := h) (G := G) (k := β 0 3 0) (s := β 0 4 0) (ser := κ 23) (L := κ 16 0) h5.2
  rw [← h5.1] at hs
  have hck : ck2 G h (β 0 3 0) (β 0 4 0) (κ 23) (σ 11 0) (κ 16 0) = h := R.ck
  rw [hck] at hs
  unfold k_leave
  by_cases hh : σ 11 0 = 0
  · have hz : zN (σ 11 0) = 0 := by rw [hh]; rfl
    simp only [if_pos hz] at hs
    rw [if_pos hh]
    refine bs_Sp.of (by decide) rfl ?_
    refine bs_aload_n (pc' := 1) dX5_performLeave_0 rfl rfl rfl ?_
    refine bs_getf (pc' := 4) kf_X5_24 dX5_performLeave_1 R.M rfl rfl ?_
    refine bs_callV (N := mX1_leave) (pc' := 7) dX5_performLeave_4 km_X5_244 ko_X1_leave hs R.C1 rfl rfl rfl (by omega) (Nat.le_refl _) (Nat.le_refl _) rfl ?_
    rintro _ _ ⟨rfl, rfl⟩
    refine bs_if_eq (tgt := 20) (pc' := 10) dX5_performLeave_7 rfl rfl (fun _ => ?_) (fun c7 => absurd rfl c7)
    refine bs_bipush (v := (-3)) (pc' := 22) dX5_performLeave_20 (by decide) rfl ?_
    exact bs_iret dX5_performLeave_22 rfl ⟨rfl, P, R⟩
  · have hz : ¬ zN (σ 11 0) = 0 := fun e => hh (by rw [h5.1, e]; rfl)
    simp only [if_neg hz] at hs
    rw [if_neg hh]
    have P1 := PI_lea P hz
    have ed : nI (zN (σ 11 0) - 1) = σ 11 0 - 1 := by
      obtain ⟨m, hm⟩ : ∃ m, zN (σ 11 0) = m + 1 := ⟨zN (σ 11 0) - 1, by omega⟩
      have e9 : σ 11 0 = nI (m + 1) := by rw [← hm]; exact h5.1
      rw [hm, e9, nI_pred]
      rfl
    refine bs_Sp.of (by decide) rfl ?_
    refine bs_aload_n (pc' := 1) dX5_performLeave_0 rfl rfl rfl ?_
    refine bs_getf (pc' := 4) kf_X5_24 dX5_performLeave_1 R.M rfl rfl ?_
    refine bs_callV (N := mX1_leave) (pc' := 7) dX5_performLeave_4 km_X5_244 ko_X1_leave hs R.C1 rfl rfl rfl (by omega) (Nat.le_refl _) (Nat.le_refl _) rfl ?_
    rintro _ h ⟨rfl, rfl⟩
    have R : Rep G h0 β (lk (ms_u (clr σ 960) 11 0 (σ 11 0 - 1)) κ) _ := R.cal (υ' := lk (ms_u (clr σ 960) 11 0 (σ 11 0 - 1)) κ) (fun k hk => by
      by_cases q : k = 7 ∨ k = 16 ∨ 19 ≤ k
      · rw [lk_o q, lk_o q]
      · rw [lk_s q, lk_s q, ms_u_n (by omega), clr_n (by omega)])
    rw [ed]
    refine bs_if_eq (tgt := 20) (pc' := 10) dX5_performLeave_7 rfl rfl (fun c7 => absurd c7 (by decide)) (fun _ => ?_)
    refine bs_aload_n (pc' := 11) dX5_performLeave_10 rfl rfl rfl ?_
    refine bs_getf (pc' := 14) kf_X5_24 dX5_performLeave_11 R.M rfl rfl ?_
    refine bs_getf (pc' := 17) kf_X5_149 dX5_performLeave_14 R.C1 rfl rfl ?_
    refine bs_goto (tgt := 22) dX5_performLeave_17 rfl ?_
    exact bs_iret dX5_performLeave_22 rfl ⟨rfl, P1, R⟩
end ROps
