section Model5
variable {G : GG} {h0 : Hp} {y : Nat} {A : Nat → Nat} {σ : MS} {hs : Int64}
theorem sm_checkRead {p c : Int32} (hA : mOk y A) (hI : mInv σ) : mSp G h0 y A σ hs mX6_checkRead 3 [.int p, .int c] (mQ2 G h0 y A hs (s_ckR σ p c)) := by
  refine bs_Sp.of (by decide) rfl ?_
  refine bs_aload_n (pc' := 1) dX6_checkRead_0 rfl rfl rfl ?_
  refine bs_iload_n (pc' := 2) dX6_checkRead_1 rfl rfl ?_
  refine bs_iload_n (pc' := 3) dX6_checkRead_2 rfl rfl ?_
  refine bs_callV (N := mX6_isCell) (pc' := 6) dX6_checkRead_3 km_X6_107 ko_X6_isCell (sm_isCell hA hI) mh_y rfl rfl rfl (by omega) (Nat.le_refl _) (Nat.le_refl _) rfl ?_
  rintro _ _ ⟨rfl, rfl⟩
  refine bs_if_eq (tgt := 18) (pc' := 9) dX6_checkRead_6 rfl rfl (fun c6 => ?_) (fun c6 => ?_)
  · have e : s_ckR σ p c = (-2, err σ 0) := if_neg (by rw [bI_0] at c6; rw [c6]; decide)
    refine bs_aload_n (pc' := 19) dX6_checkRead_18 rfl rfl rfl ?_
    refine bs_bipush (v := (-2)) (pc' := 21) dX6_checkRead_19 (by decide) rfl ?_
    refine bs_callV (N := mX6_error) (pc' := 24) dX6_checkRead_21 km_X6_93 ko_X6_error (sm_error 0 (by decide) (by decide) hA) mh_y rfl rfl rfl (by omega) (Nat.le_refl _) (Nat.le_refl _) rfl ?_
    rintro _ _ ⟨rfl, rfl⟩
    exact bs_iret dX6_checkRead_24 rfl ⟨by rw [e], by rw [e] <;> rfl⟩
  · rw [bI_n0] at c6
    have hc6 := c6
    obtain ⟨j, i, rfl, rfl, hp⟩ := isC_t hI c6
    have hp8 := hI.cell hp
    have hz1 : zN (nI j) = j := zN_nI (by have := hI.p60 hp.1; omega)
    have hz2 : zN (nI i) = i := zN_nI (by omega)
    have e : s_ckR σ (nI j) (nI i) = (rdK σ j i, σ) := by rw [s_ckR, if_pos hc6, hz1, hz2]
    refine bs_aload_n (pc' := 10) dX6_checkRead_9 rfl rfl rfl ?_
    refine bs_iload_n (pc' := 11) dX6_checkRead_10 rfl rfl ?_
    refine bs_iload_n (pc' := 12) dX6_checkRead_11 rfl rfl ?_
    refine bs_callV (N := mX6_readKind) (pc' := 15) dX6_checkRead_12 km_X6_111 ko_X6_readKind (sm_readKind hA hI hp) mh_y rfl rfl rfl (by omega) (Nat.le_refl _) (Nat.le_refl _) rfl ?_
    rintro _ _ ⟨rfl, rfl⟩
    refine bs_goto (tgt := 24) dX6_checkRead_15 rfl ?_
    exact bs_iret dX6_checkRead_24 rfl ⟨by rw [e], by rw [e] <;> rfl⟩
theorem sm_checkWrite {p c : Int32} (hA : mOk y A) (hI : mInv σ) : mSp G h0 y A σ hs mX6_checkWrite 3 [.int p, .int c] (mQ2 G h0 y A hs (s_ckW σ p c)) := by
  refine bs_Sp.of (by decide) rfl ?_
  refine bs_aload_n (pc' := 1) dX6_checkWrite_0 rfl rfl rfl ?_
  refine bs_iload_n (pc' := 2) dX6_checkWrite_1 rfl rfl ?_
  refine bs_iload_n (pc' := 3) dX6_checkWrite_2 rfl rfl ?_
  refine bs_callV (N := mX6_isCell) (pc' := 6) dX6_checkWrite_3 km_X6_107 ko_X6_isCell (sm_isCell hA hI) mh_y rfl rfl rfl (by omega) (Nat.le_refl _) (Nat.le_refl _) rfl ?_
  rintro _ _ ⟨rfl, rfl⟩
  refine bs_if_eq (tgt := 18) (pc' := 9) dX6_checkWrite_6 rfl rfl (fun c6 => ?_) (fun c6 => ?_)
  · have e : s_ckW σ p c = (-2, err σ 0) := if_neg (by rw [bI_0] at c6; rw [c6]; decide)
    refine bs_aload_n (pc' := 19) dX6_checkWrite_18 rfl rfl rfl ?_
    refine bs_bipush (v := (-2)) (pc' := 21) dX6_checkWrite_19 (by decide) rfl ?_
    refine bs_callV (N := mX6_error) (pc' := 24) dX6_checkWrite_21 km_X6_93 ko_X6_error (sm_error 0 (by decide) (by decide) hA) mh_y rfl rfl rfl (by omega) (Nat.le_refl _) (Nat.le_refl _) rfl ?_
    rintro _ _ ⟨rfl, rfl⟩
    exact bs_iret dX6_checkWrite_24 rfl ⟨by rw [e], by rw [e] <;> rfl⟩
  · rw [bI_n0] at c6
    have hc6 := c6
    obtain ⟨j, i, rfl, rfl, hp⟩ := isC_t hI c6
    have hp8 := hI.cell hp
    have hz1 : zN (nI j) = j := zN_nI (by have := hI.p60 hp.1; omega)
    have hz2 : zN (nI i) = i := zN_nI (by omega)
    have e : s_ckW σ (nI j) (nI i) = (wrK σ j i, σ) := by rw [s_ckW, if_pos hc6, hz1, hz2]
    refine bs_aload_n (pc' := 10) dX6_checkWrite_9 rfl rfl rfl ?_
    refine bs_iload_n (pc' := 11) dX6_checkWrite_10 rfl rfl ?_
    refine bs_iload_n (pc' := 12) dX6_checkWrite_11 rfl rfl ?_
    refine bs_callV (N := mX6_writeKind) (pc' := 15) dX6_checkWrite_12 km_X6_90 ko_X6_writeKind (sm_writeKind hA hI hp) mh_y rfl rfl rfl (by omega) (Nat.le_refl _) (Nat.le_refl _) rfl ?_
    rintro _ _ ⟨rfl, rfl⟩
    refine bs_goto (tgt := 24) dX6_checkWrite_15 rfl ?_
    exact bs_iret dX6_checkWrite_24 rfl ⟨by rw [e], by rw [e] <;> rfl⟩
theorem sm_checkFree {p : Int32} (hA : mOk y A) (hI : mInv σ) : mSp G h0 y A σ hs mX6_checkFree 3 [.int p] (mQ2 G h0 y A hs (s_ckF σ p)) := by
  refine bs_Sp.of (by decide) rfl ?_
  have loop : ∀ j n, j < zN (σ 8 0) → n = zN (σ 1 (zN (σ 9 j))) → ∀ f i, i + f = n → fsV (frK σ j) n 0 = fsV (frK σ j) f i → mB G h0 y A σ hs mX6_checkFree 3 17 [(0, .ref y), (1, .int (nI j)), (2, .int (nI i))] [] (mQ2 G h0 y A hs (s_ckF σ (nI j))) := by
    intro j n hj hn f
    have h60 := hI.p60 hj
    have hz1 : zN (nI j) = j := zN_nI (by omega)
    have hnP := hI.nP.2
    have hib : inb (nI j) (zN (σ 8 0)) = true := inb_nI hj (by omega)
    have hcl := (hI.cl (hI.ow hj).2).1
    have hcl2 := hcl.2
    have h10 := hI.ow10 hj
    have howe := hI.owe hj
    induction f with
    | zero =>
      intro i hi hf
      have e : s_ckF σ (nI j) = (0, σ) := by
        rw [s_ckF, if_pos hib, hz1, ← hn, hf]
        rfl
      refine bs_iload_n (pc' := 18) dX6_checkFree_17 rfl rfl ?_
      refine bs_aload_n (pc' := 19) dX6_checkFree_18 rfl rfl rfl ?_
      refine bs_getf (pc' := 22) kf_X6_7 dX6_checkFree_19 mh_y rfl rfl ?_
      refine bs_aload_n (pc' := 23) dX6_checkFree_22 rfl rfl rfl ?_
      refine bs_getf (pc' := 26) kf_X6_32 dX6_checkFree_23 mh_y rfl rfl ?_
      refine bs_iload_n (pc' := 27) dX6_checkFree_26 rfl rfl ?_
      refine bm_ald (pc' := 28) dX6_checkFree_27 hA rfl rfl j rfl h60 rfl ?_
      refine bm_ald (pc' := 29) dX6_checkFree_28 hA rfl rfl (zN (σ 9 j)) howe h10 rfl ?_
      refine bs_icmp_ge (tgt := 51) (pc' := 32) dX6_checkFree_29 rfl rfl (fun _ => ?_) (fun c29 => absurd (by rw [hcl.1]; exact nI_le (by omega) (by omega)) c29)
      refine bs_iconst (v := 0) (pc' := 52) dX6_checkFree_51 (by decide) rfl ?_
      exact bs_iret dX6_checkFree_52 rfl ⟨by rw [e], by rw [e]⟩
    | succ f ih =>
      intro i hi hf
      have hic : isPc σ j i := ⟨hj, by omega⟩
      refine bs_iload_n (pc' := 18) dX6_checkFree_17 rfl rfl ?_
      refine bs_aload_n (pc' := 19) dX6_checkFree_18 rfl rfl rfl ?_
      refine bs_getf (pc' := 22) kf_X6_7 dX6_checkFree_19 mh_y rfl rfl ?_
      refine bs_aload_n (pc' := 23) dX6_checkFree_22 rfl rfl rfl ?_
      refine bs_getf (pc' := 26) kf_X6_32 dX6_checkFree_23 mh_y rfl rfl ?_
      refine bs_iload_n (pc' := 27) dX6_checkFree_26 rfl rfl ?_
      refine bm_ald (pc' := 28) dX6_checkFree_27 hA rfl rfl j rfl h60 rfl ?_
      refine bm_ald (pc' := 29) dX6_checkFree_28 hA rfl rfl (zN (σ 9 j)) howe h10 rfl ?_
      refine bs_icmp_ge (tgt := 51) (pc' := 32) dX6_checkFree_29 rfl rfl (fun c29 => absurd c29 (by rw [hcl.1]; exact nI_ge (by omega) (by omega))) (fun _ => ?_)
      refine bs_aload_n (pc' := 33) dX6_checkFree_32 rfl rfl rfl ?_
      refine bs_iload_n (pc' := 34) dX6_checkFree_33 rfl rfl ?_
      refine bs_iload_n (pc' := 35) dX6_checkFree_34 rfl rfl ?_
      refine bs_callV (N := mX6_freeKind) (pc' := 38) dX6_checkFree_35 km_X6_141 ko_X6_freeKind (sm_freeKind hA hI hic) mh_y rfl rfl rfl (by omega) (Nat.le_refl _) (Nat.le_refl _) rfl ?_
      rintro _ _ ⟨rfl, rfl⟩
      refine bs_istore_n (pc' := 39) (lv' := [(0, _), (1, _), (2, _), (3, _)]) dX6_checkFree_38 rfl rfl rfl ?_
      refine bs_iload_n (pc' := 40) dX6_checkFree_39 rfl rfl ?_
      refine bs_if_eq (tgt := 45) (pc' := 43) dX6_checkFree_40 rfl rfl (fun c40 => ?_) (fun c40 => ?_)
      · refine bs_iinc (pc' := 48) (lv' := [(0, _), (1, _), (2, _), (3, _)]) dX6_checkFree_45 rfl (nI_i1 i) rfl rfl rfl ?_
        refine bs_goto (tgt := 17) dX6_checkFree_48 rfl ?_
        refine bs_sub (lv' := [(0, _), (1, _), (2, _)]) [0, 1, 2] rfl ?_
        exact ih (i + 1) (by omega) (by rw [hf]; show fsV (frK σ j) (f + 1) i = _; unfold fsV; rw [if_pos c40]; cases f <;> rfl)
      · refine bs_iload_n (pc' := 44) dX6_checkFree_43 rfl rfl ?_
        have e : s_ckF σ (nI j) = (frK σ j i, σ) := by
          have e1 : fsV (frK σ j) (f + 1) i = some i := by unfold fsV; rw [if_neg c40]
          rw [s_ckF, if_pos hib, hz1, ← hn, hf, e1]
        exact bs_iret dX6_checkFree_44 rfl ⟨by rw [e], by rw [e]⟩
  refine bs_aload_n (pc' := 1) dX6_checkFree_0 rfl rfl rfl ?_
  refine bs_iload_n (pc' := 2) dX6_checkFree_1 rfl rfl ?_
  refine bs_callV (N := mX6_isPointer) (pc' := 5) dX6_checkFree_2 km_X6_71 ko_X6_isPointer (sm_isPointer hI) mh_y rfl rfl rfl (by omega) (Nat.le_refl _) (Nat.le_refl _) rfl ?_
  rintro _ _ ⟨rfl, rfl⟩
  refine bs_if_ne (tgt := 15) (pc' := 8) dX6_checkFree_5 rfl rfl (fun c5 => ?_) (fun c5 => ?_)
  · rw [bI_n0] at c5
    obtain ⟨j, hj, rfl⟩ := inb_t (by have := hI.nP.2; omega) c5
    refine bs_iconst (v := 0) (pc' := 16) dX6_checkFree_15 (by decide) rfl ?_
    refine bs_istore_n (pc' := 17) (lv' := [(0, _), (1, _), (2, _)]) dX6_checkFree_16 rfl rfl rfl ?_
    exact loop j _ hj rfl _ 0 (Nat.zero_add _) rfl
  · refine bs_aload_n (pc' := 9) dX6_checkFree_8 rfl rfl rfl ?_
    refine bs_bipush (v := (-2)) (pc' := 11) dX6_checkFree_9 (by decide) rfl ?_
    refine bs_callV (N := mX6_error) (pc' := 14) dX6_checkFree_11 km_X6_93 ko_X6_error (sm_error 0 (by decide) (by decide) hA) mh_y rfl rfl rfl (by omega) (Nat.le_refl _) (Nat.le_refl _) rfl ?_
    rintro _ _ ⟨rfl, rfl⟩
    have e : s_ckF σ p = (-2, err σ 0) := if_neg (by rw [bI_0] at c5; rw [c5]; decide)
    exact bs_iret dX6_checkFree_14 rfl ⟨by rw [e], by rw [e] <;> rfl⟩
theorem sm_removedByWrite {p c : Int32} (hA : mOk y A) (hI : mInv σ) : mSp G h0 y A σ hs mX6_removedByWrite 3 [.int p, .int c] (mQ2 G h0 y A hs (s_rmv σ p c)) := by
  refine bs_Sp.of (by decide) rfl ?_
  refine bs_aload_n (pc' := 1) dX6_removedByWrite_0 rfl rfl rfl ?_
  refine bs_iload_n (pc' := 2) dX6_removedByWrite_1 rfl rfl ?_
  refine bs_iload_n (pc' := 3) dX6_removedByWrite_2 rfl rfl ?_
  refine bs_callV (N := mX6_isCell) (pc' := 6) dX6_removedByWrite_3 km_X6_107 ko_X6_isCell (sm_isCell hA hI) mh_y rfl rfl rfl (by omega) (Nat.le_refl _) (Nat.le_refl _) rfl ?_
  rintro _ _ ⟨rfl, rfl⟩
  refine bs_if_ne (tgt := 16) (pc' := 9) dX6_removedByWrite_6 rfl rfl (fun c6 => ?_) (fun c6 => ?_)
  · rw [bI_n0] at c6
    have hc6 := c6
    obtain ⟨j, i, rfl, rfl, hp⟩ := isC_t hI c6
    have hp8 := hI.cell hp
    have hc : cO σ j i < 80 := hp8.2
    have hz1 : zN (nI j) = j := zN_nI (by have := hI.p60 hp.1; omega)
    have hz2 : zN (nI i) = i := zN_nI (by omega)
    refine bs_aload_n (pc' := 17) dX6_removedByWrite_16 rfl rfl rfl ?_
    refine bs_iload_n (pc' := 18) dX6_removedByWrite_17 rfl rfl ?_
    refine bs_iload_n (pc' := 19) dX6_removedByWrite_18 rfl rfl ?_
    refine bs_callV (N := mX6_writeKind) (pc' := 22) dX6_removedByWrite_19 km_X6_90 ko_X6_writeKind (sm_writeKind hA hI hp) mh_y rfl rfl rfl (by omega) (Nat.le_refl _) (Nat.le_refl _) rfl ?_
    rintro _ _ ⟨rfl, rfl⟩
    refine bs_if_eq (tgt := 27) (pc' := 25) dX6_removedByWrite_22 rfl rfl (fun c22 => ?_) (fun c22 => ?_)
    · obtain ⟨-, k, hg⟩ := wrK_0 c22
      refine bs_aload_n (pc' := 28) dX6_removedByWrite_27 rfl rfl rfl ?_
      refine bs_iload_n (pc' := 29) dX6_removedByWrite_28 rfl rfl ?_
      refine bs_iload_n (pc' := 30) dX6_removedByWrite_29 rfl rfl ?_
      refine bs_callV (N := mX6_cellOf) (pc' := 33) dX6_removedByWrite_30 km_X6_75 ko_X6_cellOf (sm_cellOf hA hI hp) mh_y rfl rfl rfl (by omega) (Nat.le_refl _) (Nat.le_refl _) rfl ?_
      rintro _ _ ⟨rfl, rfl⟩
      refine bs_istore_n (pc' := 34) (lv' := [(0, _), (1, _), (2, _), (3, _)]) dX6_removedByWrite_33 rfl rfl rfl ?_
      refine bs_aload_n (pc' := 35) dX6_removedByWrite_34 rfl rfl rfl ?_
      refine bs_getf (pc' := 38) kf_X6_20 dX6_removedByWrite_35 mh_y rfl rfl ?_
      refine bs_iload_n (pc' := 39) dX6_removedByWrite_38 rfl rfl ?_
      refine bm_ald (pc' := 40) dX6_removedByWrite_39 hA rfl rfl (cO σ j i) rfl hc rfl ?_
      refine bs_aload_n (pc' := 41) dX6_removedByWrite_40 rfl rfl rfl ?_
      refine bs_iload_n (pc' := 42) dX6_removedByWrite_41 rfl rfl ?_
      refine bs_aload_n (pc' := 43) dX6_removedByWrite_42 rfl rfl rfl ?_
      refine bs_iload_n (pc' := 44) dX6_removedByWrite_43 rfl rfl ?_
      refine bs_iload_n (pc' := 45) dX6_removedByWrite_44 rfl rfl ?_
      refine bs_iconst (v := 1) (pc' := 46) dX6_removedByWrite_45 (by decide) rfl ?_
      refine bs_callV (N := mX6_granting) (pc' := 49) dX6_removedByWrite_46 km_X6_79 ko_X6_granting (sm_granting (w := true) hA hI hc) mh_y rfl rfl rfl (by omega) (Nat.le_refl _) (Nat.le_refl _) rfl ?_
      rintro _ _ ⟨rfl, rfl⟩
      rw [hg]
      refine bs_callV (N := mX6_above) (pc' := 52) dX6_removedByWrite_49 km_X6_87 ko_X6_above (sm_above hA hI hc (grf_lt hg)) mh_y rfl rfl rfl (by omega) (Nat.le_refl _) (Nat.le_refl _) rfl ?_
      rintro _ _ ⟨rfl, rfl⟩
      refine bs_isub (pc' := 53) dX6_removedByWrite_52 rfl ?_
      have e : s_rmv σ (nI j) (nI i) = (σ 4 (cO σ j i) - nI (ab σ (cO σ j i) k), σ) := by rw [s_rmv, if_pos hc6, hz1, hz2, if_pos c22, hg]
      exact bs_iret dX6_removedByWrite_53 rfl ⟨by rw [e], by rw [e]⟩
    · refine bs_iconst (v := (-1)) (pc' := 26) dX6_removedByWrite_25 (by decide) rfl ?_
      have e : s_rmv σ (nI j) (nI i) = (-1, σ) := by rw [s_rmv, if_pos hc6, hz1, hz2, if_neg c22]
      exact bs_iret dX6_removedByWrite_26 rfl ⟨by rw [e], by rw [e]⟩
  · refine bs_aload_n (pc' := 10) dX6_removedByWrite_9 rfl rfl rfl ?_
    refine bs_bipush (v := (-2)) (pc' := 12) dX6_removedByWrite_10 (by decide) rfl ?_
    refine bs_callV (N := mX6_error) (pc' := 15) dX6_removedByWrite_12 km_X6_93 ko_X6_error (sm_error 0 (by decide) (by decide) hA) mh_y rfl rfl rfl (by omega) (Nat.le_refl _) (Nat.le_refl _) rfl ?_
    rintro _ _ ⟨rfl, rfl⟩
    have e : s_rmv σ p c = (-2, err σ 0) := if_neg (by rw [bI_0] at c6; rw [c6]; decide)
    exact bs_iret dX6_removedByWrite_15 rfl ⟨by rw [e], by rw [e] <;> rfl⟩
theorem sm_isAllocation {a : Int32} (hI : mInv σ) : mSp G h0 y A σ hs mX6_isAllocation 1 [.int a] (mQi G h0 y A σ hs (bI (inb a (zN (σ 0 0))))) := by
  have h1 := hI.nA.1
  refine bs_Sp.of (by decide) rfl ?_
  refine bs_iload_n (pc' := 1) dX6_isAllocation_0 rfl rfl ?_
  refine bs_iconst (v := 0) (pc' := 2) dX6_isAllocation_1 (by decide) rfl ?_
  refine bs_aload_n (pc' := 3) dX6_isAllocation_2 rfl rfl rfl ?_
  refine bs_getf (pc' := 6) kf_X6_97 dX6_isAllocation_3 mh_y rfl rfl ?_
  refine bs_iconst (v := 1) (pc' := 7) dX6_isAllocation_6 (by decide) rfl ?_
  refine bs_isub (pc' := 8) dX6_isAllocation_7 rfl ?_
  refine bs_callS (N := mX6_in) (pc' := 11) dX6_isAllocation_8 km_X6_67 ko_X6_in sm_in rfl rfl rfl (by omega) (Nat.le_refl _) (Nat.le_refl _) rfl ?_
  rintro _ _ ⟨rfl, rfl⟩
  exact bs_zret dX6_isAllocation_11 rfl (bI_01 _) ⟨by rw [inb, ← h1], rfl⟩
theorem sm_isCellOf {a c : Int32} (hA : mOk y A) (hI : mInv σ) : mSp G h0 y A σ hs mX6_isCellOf 2 [.int a, .int c] (mQi G h0 y A σ hs (bI (isA σ a c))) := by
  have h10 := hI.nA.2
  refine bs_Sp.of (by decide) rfl ?_
  refine bs_aload_n (pc' := 1) dX6_isCellOf_0 rfl rfl rfl ?_
  refine bs_iload_n (pc' := 2) dX6_isCellOf_1 rfl rfl ?_
  refine bs_callV (N := mX6_isAllocation) (pc' := 5) dX6_isCellOf_2 km_X6_144 ko_X6_isAllocation (sm_isAllocation hI) mh_y rfl rfl rfl (by omega) (Nat.le_refl _) (Nat.le_refl _) rfl ?_
  rintro _ _ ⟨rfl, rfl⟩
  refine bs_if_eq (tgt := 28) (pc' := 8) dX6_isCellOf_5 rfl rfl (fun c5 => ?_) (fun c5 => ?_)
  · refine bs_iconst (v := 0) (pc' := 29) dX6_isCellOf_28 (by decide) rfl ?_
    exact bs_zret dX6_isCellOf_29 rfl (by decide) ⟨by first | (rw [bI_0] at c5; rw [isA, c5]; rfl) | (have hz : zN (nI j) = j := zN_nI (by omega); first | (rw [bI_n0] at c21; rw [isA, c5, hz, inb, ← hcl.1, c21]; rfl) | (rw [bI_0] at c21; rw [isA, c5, hz, inb, ← hcl.1, c21]; rfl)), rfl⟩
  · rw [bI_n0] at c5
    obtain ⟨j, hj, rfl⟩ := inb_t (by omega) c5
    have hcl := (hI.cl hj).1
    refine bs_iload_n (pc' := 9) dX6_isCellOf_8 rfl rfl ?_
    refine bs_iconst (v := 0) (pc' := 10) dX6_isCellOf_9 (by decide) rfl ?_
    refine bs_aload_n (pc' := 11) dX6_isCellOf_10 rfl rfl rfl ?_
    refine bs_getf (pc' := 14) kf_X6_7 dX6_isCellOf_11 mh_y rfl rfl ?_
    refine bs_iload_n (pc' := 15) dX6_isCellOf_14 rfl rfl ?_
    refine bm_ald (pc' := 16) dX6_isCellOf_15 hA rfl rfl j rfl (by show _ < 10; omega) rfl ?_
    refine bs_iconst (v := 1) (pc' := 17) dX6_isCellOf_16 (by decide) rfl ?_
    refine bs_isub (pc' := 18) dX6_isCellOf_17 rfl ?_
    refine bs_callS (N := mX6_in) (pc' := 21) dX6_isCellOf_18 km_X6_67 ko_X6_in sm_in rfl rfl rfl (by omega) (Nat.le_refl _) (Nat.le_refl _) rfl ?_
    rintro _ _ ⟨rfl, rfl⟩
    refine bs_if_eq (tgt := 28) (pc' := 24) dX6_isCellOf_21 rfl rfl (fun c21 => ?_) (fun c21 => ?_)
    · refine bs_iconst (v := 0) (pc' := 29) dX6_isCellOf_28 (by decide) rfl ?_
      exact bs_zret dX6_isCellOf_29 rfl (by decide) ⟨by first | (rw [bI_0] at c5; rw [isA, c5]; rfl) | (have hz : zN (nI j) = j := zN_nI (by omega); first | (rw [bI_n0] at c21; rw [isA, c5, hz, inb, ← hcl.1, c21]; rfl) | (rw [bI_0] at c21; rw [isA, c5, hz, inb, ← hcl.1, c21]; rfl)), rfl⟩
    · refine bs_iconst (v := 1) (pc' := 25) dX6_isCellOf_24 (by decide) rfl ?_
      refine bs_goto (tgt := 29) dX6_isCellOf_25 rfl ?_
      exact bs_zret dX6_isCellOf_29 rfl (by decide) ⟨by first | (rw [bI_0] at c5; rw [isA, c5]; rfl) | (have hz : zN (nI j) = j := zN_nI (by omega); first | (rw [bI_n0] at c21; rw [isA, c5, hz, inb, ← hcl.1, c21]; rfl) | (rw [bI_0] at c21; rw [isA, c5, hz, inb, ← hcl.1, c21]; rfl)), rfl⟩
theorem sm_placeOf {a c x : Int32} (hA : mOk y A) (hI : mInv σ) : mSp G h0 y A σ hs mX6_placeOf 3 [.int a, .int c, .int x] (mQi G h0 y A σ hs (if isI σ a c x = true then nI (iPl a c x) else -1)) := by
  refine bs_Sp.of (by decide) rfl ?_
  have j35 : ∀ z, z = bI (isI σ a c x) → mB G h0 y A σ hs mX6_placeOf 3 35 [(0, .ref y), (1, .int a), (2, .int c), (3, .int x)] [.int z] (mQi G h0 y A σ hs (if isI σ a c x = true then nI (iPl a c x) else -1)) := by
    intro z hz
    subst hz
    refine bs_istore (pc' := 37) (lv' := [(0, _), (1, _), (2, _), (3, _), (4, _)]) dX6_placeOf_35 rfl rfl rfl ?_
    refine bs_iload (pc' := 39) dX6_placeOf_37 rfl rfl ?_
    refine bs_if_eq (tgt := 56) (pc' := 42) dX6_placeOf_39 rfl rfl (fun c39 => ?_) (fun c39 => ?_)
    · refine bs_iconst (v := (-1)) (pc' := 57) dX6_placeOf_56 (by decide) rfl ?_
      exact bs_iret dX6_placeOf_57 rfl ⟨by first | (rw [bI_0] at c39; rw [c39]; rfl) | (rw [bI_n0] at c39; rw [if_pos c39]; have h := c39; unfold isI at h; rw [Bool.and_eq_true] at h; obtain ⟨j, i, rfl, rfl, h1, h2, h3, h4⟩ := isA_t hI h.1; have hx := h.2; rw [zN_nI (by omega), zN_nI (by omega)] at hx; have h12 := (hI.sz (c := 8 * j + i) (by omega)).2; obtain ⟨k, hk, rfl⟩ := inb_t (by omega) hx; rw [iPl, zN_nI (by omega), zN_nI (by omega), zN_nI (by omega), nI_8, nI_12]), rfl⟩
    · refine bs_bipush (v := 12) (pc' := 44) dX6_placeOf_42 (by decide) rfl ?_
      refine bs_bipush (v := 8) (pc' := 46) dX6_placeOf_44 (by decide) rfl ?_
      refine bs_iload_n (pc' := 47) dX6_placeOf_46 rfl rfl ?_
      refine bs_imul (pc' := 48) dX6_placeOf_47 rfl ?_
      refine bs_iload_n (pc' := 49) dX6_placeOf_48 rfl rfl ?_
      refine bs_iadd (pc' := 50) dX6_placeOf_49 rfl ?_
      refine bs_imul (pc' := 51) dX6_placeOf_50 rfl ?_
      refine bs_iload_n (pc' := 52) dX6_placeOf_51 rfl rfl ?_
      refine bs_iadd (pc' := 53) dX6_placeOf_52 rfl ?_
      refine bs_goto (tgt := 57) dX6_placeOf_53 rfl ?_
      exact bs_iret dX6_placeOf_57 rfl ⟨by first | (rw [bI_0] at c39; rw [c39]; rfl) | (rw [bI_n0] at c39; rw [if_pos c39]; have h := c39; unfold isI at h; rw [Bool.and_eq_true] at h; obtain ⟨j, i, rfl, rfl, h1, h2, h3, h4⟩ := isA_t hI h.1; have hx := h.2; rw [zN_nI (by omega), zN_nI (by omega)] at hx; have h12 := (hI.sz (c := 8 * j + i) (by omega)).2; obtain ⟨k, hk, rfl⟩ := inb_t (by omega) hx; rw [iPl, zN_nI (by omega), zN_nI (by omega), zN_nI (by omega), nI_8, nI_12]), rfl⟩
  refine bs_aload_n (pc' := 1) dX6_placeOf_0 rfl rfl rfl ?_
  refine bs_iload_n (pc' := 2) dX6_placeOf_1 rfl rfl ?_
  refine bs_iload_n (pc' := 3) dX6_placeOf_2 rfl rfl ?_
  refine bs_callV (N := mX6_isCellOf) (pc' := 6) dX6_placeOf_3 km_X6_147 ko_X6_isCellOf (sm_isCellOf hA hI) mh_y rfl rfl rfl (by omega) (Nat.le_refl _) (Nat.le_refl _) rfl ?_
  rintro _ _ ⟨rfl, rfl⟩
  refine bs_if_eq (tgt := 34) (pc' := 9) dX6_placeOf_6 rfl rfl (fun c6 => ?_) (fun c6 => ?_)
  · refine bs_iconst (v := 0) (pc' := 35) dX6_placeOf_34 (by decide) rfl ?_
    exact j35 _ (by first | (rw [bI_0] at c6; rw [isI, c6]; rfl) | (first | (rw [bI_n0] at c27; rw [isI, c6, zN_nI (by omega), zN_nI (by omega), inb, ← hsz.1, c27]; rfl) | (rw [bI_0] at c27; rw [isI, c6, zN_nI (by omega), zN_nI (by omega), inb, ← hsz.1, c27]; rfl)))
  · rw [bI_n0] at c6
    obtain ⟨j, i, rfl, rfl, h1, h2, h3, h4⟩ := isA_t hI c6
    have hsz := hI.sz (c := 8 * j + i) (by omega)
    refine bs_iload_n (pc' := 10) dX6_placeOf_9 rfl rfl ?_
    refine bs_iconst (v := 0) (pc' := 11) dX6_placeOf_10 (by decide) rfl ?_
    refine bs_aload_n (pc' := 12) dX6_placeOf_11 rfl rfl rfl ?_
    refine bs_getf (pc' := 15) kf_X6_20 dX6_placeOf_12 mh_y rfl rfl ?_
    refine bs_bipush (v := 8) (pc' := 17) dX6_placeOf_15 (by decide) rfl ?_
    refine bs_iload_n (pc' := 18) dX6_placeOf_17 rfl rfl ?_
    refine bs_imul (pc' := 19) dX6_placeOf_18 rfl ?_
    refine bs_iload_n (pc' := 20) dX6_placeOf_19 rfl rfl ?_
    refine bs_iadd (pc' := 21) dX6_placeOf_20 rfl ?_
    refine bm_ald (pc' := 22) dX6_placeOf_21 hA rfl rfl (8 * j + i) (nI_8 j i) (by show _ < 80; omega) rfl ?_
    refine bs_iconst (v := 1) (pc' := 23) dX6_placeOf_22 (by decide) rfl ?_
    refine bs_isub (pc' := 24) dX6_placeOf_23 rfl ?_
    refine bs_callS (N := mX6_in) (pc' := 27) dX6_placeOf_24 km_X6_67 ko_X6_in sm_in rfl rfl rfl (by omega) (Nat.le_refl _) (Nat.le_refl _) rfl ?_
    rintro _ _ ⟨rfl, rfl⟩
    refine bs_if_eq (tgt := 34) (pc' := 30) dX6_placeOf_27 rfl rfl (fun c27 => ?_) (fun c27 => ?_)
    · refine bs_iconst (v := 0) (pc' := 35) dX6_placeOf_34 (by decide) rfl ?_
      exact j35 _ (by first | (rw [bI_0] at c6; rw [isI, c6]; rfl) | (first | (rw [bI_n0] at c27; rw [isI, c6, zN_nI (by omega), zN_nI (by omega), inb, ← hsz.1, c27]; rfl) | (rw [bI_0] at c27; rw [isI, c6, zN_nI (by omega), zN_nI (by omega), inb, ← hsz.1, c27]; rfl)))
    · refine bs_iconst (v := 1) (pc' := 31) dX6_placeOf_30 (by decide) rfl ?_
      refine bs_goto (tgt := 35) dX6_placeOf_31 rfl ?_
      exact j35 _ (by first | (rw [bI_0] at c6; rw [isI, c6]; rfl) | (first | (rw [bI_n0] at c27; rw [isI, c6, zN_nI (by omega), zN_nI (by omega), inb, ← hsz.1, c27]; rfl) | (rw [bI_0] at c27; rw [isI, c6, zN_nI (by omega), zN_nI (by omega), inb, ← hsz.1, c27]; rfl)))
theorem isI_t {a c x : Int32} (hI : mInv σ) (h : isI σ a c x = true) : ∃ j i k, a = nI j ∧ c = nI i ∧ x = nI k ∧ j < zN (σ 0 0) ∧ i < zN (σ 1 j) ∧ k < zN (σ 4 (8 * j + i)) ∧ j < 10 ∧ i < 8 ∧ k < 12 ∧ iPl a c x = 12 * (8 * j + i) + k := by
  unfold isI at h
  rw [Bool.and_eq_true] at h
  obtain ⟨j, i, rfl, rfl, h1, h2, h3, h4⟩ := isA_t hI h.1
  have hx := h.2
  rw [zN_nI (by omega), zN_nI (by omega)] at hx
  have h12 := (hI.sz (c := 8 * j + i) (by omega)).2
  obtain ⟨k, hk, rfl⟩ := inb_t (by omega) hx
  exact ⟨j, i, k, rfl, rfl, rfl, h1, h2, hk, h3, h4, by omega, by rw [iPl, zN_nI (by omega), zN_nI (by omega), zN_nI (by omega)]⟩
theorem sm_stackSize {a c : Int32} (hA : mOk y A) (hI : mInv σ) : mSp G h0 y A σ hs mX6_stackSize 3 [.int a, .int c] (mQ2 G h0 y A hs (s_siz σ a c)) := by
  refine bs_Sp.of (by decide) rfl ?_
  refine bs_aload_n (pc' := 1) dX6_stackSize_0 rfl rfl rfl ?_
  refine bs_iload_n (pc' := 2) dX6_stackSize_1 rfl rfl ?_
  refine bs_iload_n (pc' := 3) dX6_stackSize_2 rfl rfl ?_
  refine bs_callV (N := mX6_isCellOf) (pc' := 6) dX6_stackSize_3 km_X6_147 ko_X6_isCellOf (sm_isCellOf hA hI) mh_y rfl rfl rfl (by omega) (Nat.le_refl _) (Nat.le_refl _) rfl ?_
  rintro _ _ ⟨rfl, rfl⟩
  refine bs_if_eq (tgt := 23) (pc' := 9) dX6_stackSize_6 rfl rfl (fun c6 => ?_) (fun c6 => ?_)
  · have e : s_siz σ a c = (-2, err σ 0) := if_neg (by rw [bI_0] at c6; rw [c6]; decide)
    refine bs_aload_n (pc' := 24) dX6_stackSize_23 rfl rfl rfl ?_
    refine bs_bipush (v := (-2)) (pc' := 26) dX6_stackSize_24 (by decide) rfl ?_
    refine bs_callV (N := mX6_error) (pc' := 29) dX6_stackSize_26 km_X6_93 ko_X6_error (sm_error 0 (by decide) (by decide) hA) mh_y rfl rfl rfl (by omega) (Nat.le_refl _) (Nat.le_refl _) rfl ?_
    rintro _ _ ⟨rfl, rfl⟩
    exact bs_iret dX6_stackSize_29 rfl ⟨by rw [e], by rw [e] <;> rfl⟩
  · rw [bI_n0] at c6
    have hc6 := c6
    obtain ⟨j, i, rfl, rfl, h1, h2, h3, h4⟩ := isA_t hI c6
    have e : s_siz σ (nI j) (nI i) = (σ 4 (8 * j + i), σ) := by rw [s_siz, if_pos hc6, zN_nI (by omega), zN_nI (by omega)]
    refine bs_aload_n (pc' := 10) dX6_stackSize_9 rfl rfl rfl ?_
    refine bs_getf (pc' := 13) kf_X6_20 dX6_stackSize_10 mh_y rfl rfl ?_
    refine bs_bipush (v := 8) (pc' := 15) dX6_stackSize_13 (by decide) rfl ?_
    refine bs_iload_n (pc' := 16) dX6_stackSize_15 rfl rfl ?_
    refine bs_imul (pc' := 17) dX6_stackSize_16 rfl ?_
    refine bs_iload_n (pc' := 18) dX6_stackSize_17 rfl rfl ?_
    refine bs_iadd (pc' := 19) dX6_stackSize_18 rfl ?_
    refine bm_ald (pc' := 20) dX6_stackSize_19 hA rfl rfl (8 * j + i) (nI_8 j i) (by show _ < 80; omega) rfl ?_
    refine bs_goto (tgt := 29) dX6_stackSize_20 rfl ?_
    exact bs_iret dX6_stackSize_29 rfl ⟨by rw [e], by rw [e] <;> rfl⟩
theorem sm_itemTag {a c x : Int32} (hA : mOk y A) (hI : mInv σ) : mSp G h0 y A σ hs mX6_itemTag 4 [.int a, .int c, .int x] (mQ2 G h0 y A hs (s_itm σ 5 a c x)) := by
  refine bs_Sp.of (by decide) rfl ?_
  have j9 : mB G h0 y A σ hs mX6_itemTag 4 9 [(0, .ref y), (1, .int a), (2, .int c), (3, .int x), (4, .int (if isI σ a c x = true then nI (iPl a c x) else -1))] [] (mQ2 G h0 y A hs (s_itm σ 5 a c x)) := by
    by_cases h : isI σ a c x = true
    · obtain ⟨j, i, k, -, -, -, -, -, -, h1, h2, h3, ep⟩ := isI_t hI h
      have e : s_itm σ 5 a c x = (σ 5 (iPl a c x), σ) := if_pos h
      rw [if_pos h]
      refine bs_iload (pc' := 11) dX6_itemTag_9 rfl rfl ?_
      refine bs_iconst (v := (-1)) (pc' := 12) dX6_itemTag_11 (by decide) rfl ?_
      refine bs_icmp_ne (tgt := 24) (pc' := 15) dX6_itemTag_12 rfl rfl (fun _ => ?_) (fun c12 => absurd c12 (nI_ne_m1 (by omega)))
      refine bs_aload_n (pc' := 25) dX6_itemTag_24 rfl rfl rfl ?_
      refine bs_getf (pc' := 28) kf_X6_23 dX6_itemTag_25 mh_y rfl rfl ?_
      refine bs_iload (pc' := 30) dX6_itemTag_28 rfl rfl ?_
      refine bm_ald (pc' := 31) dX6_itemTag_30 hA rfl rfl (iPl a c x) rfl (by show _ < 960; omega) rfl ?_
      exact bs_iret dX6_itemTag_31 rfl ⟨by rw [e], by rw [e]⟩
    · have e : s_itm σ 5 a c x = (-2, err σ 0) := if_neg h
      rw [if_neg h]
      refine bs_iload (pc' := 11) dX6_itemTag_9 rfl rfl ?_
      refine bs_iconst (v := (-1)) (pc' := 12) dX6_itemTag_11 (by decide) rfl ?_
      refine bs_icmp_ne (tgt := 24) (pc' := 15) dX6_itemTag_12 rfl rfl (fun c12 => absurd rfl c12) (fun _ => ?_)
      refine bs_aload_n (pc' := 16) dX6_itemTag_15 rfl rfl rfl ?_
      refine bs_bipush (v := (-2)) (pc' := 18) dX6_itemTag_16 (by decide) rfl ?_
      refine bs_callV (N := mX6_error) (pc' := 21) dX6_itemTag_18 km_X6_93 ko_X6_error (sm_error 0 (by decide) (by decide) hA) mh_y rfl rfl rfl (by omega) (Nat.le_refl _) (Nat.le_refl _) rfl ?_
      rintro _ _ ⟨rfl, rfl⟩
      refine bs_goto (tgt := 31) dX6_itemTag_21 rfl ?_
      exact bs_iret dX6_itemTag_31 rfl ⟨by rw [e], by rw [e] <;> rfl⟩
  refine bs_aload_n (pc' := 1) dX6_itemTag_0 rfl rfl rfl ?_
  refine bs_iload_n (pc' := 2) dX6_itemTag_1 rfl rfl ?_
  refine bs_iload_n (pc' := 3) dX6_itemTag_2 rfl rfl ?_
  refine bs_iload_n (pc' := 4) dX6_itemTag_3 rfl rfl ?_
  refine bs_callV (N := mX6_placeOf) (pc' := 7) dX6_itemTag_4 km_X6_150 ko_X6_placeOf (sm_placeOf hA hI) mh_y rfl rfl rfl (by omega) (Nat.le_refl _) (Nat.le_refl _) rfl ?_
  rintro _ _ ⟨rfl, rfl⟩
  refine bs_istore (pc' := 9) (lv' := [(0, _), (1, _), (2, _), (3, _), (4, _)]) dX6_itemTag_7 rfl rfl rfl ?_
  exact j9
theorem sm_itemPermission {a c x : Int32} (hA : mOk y A) (hI : mInv σ) : mSp G h0 y A σ hs mX6_itemPermission 4 [.int a, .int c, .int x] (mQ2 G h0 y A hs (s_itm σ 6 a c x)) := by
  refine bs_Sp.of (by decide) rfl ?_
  have j9 : mB G h0 y A σ hs mX6_itemPermission 4 9 [(0, .ref y), (1, .int a), (2, .int c), (3, .int x), (4, .int (if isI σ a c x = true then nI (iPl a c x) else -1))] [] (mQ2 G h0 y A hs (s_itm σ 6 a c x)) := by
    by_cases h : isI σ a c x = true
    · obtain ⟨j, i, k, -, -, -, -, -, -, h1, h2, h3, ep⟩ := isI_t hI h
      have e : s_itm σ 6 a c x = (σ 6 (iPl a c x), σ) := if_pos h
      rw [if_pos h]
      refine bs_iload (pc' := 11) dX6_itemPermission_9 rfl rfl ?_
      refine bs_iconst (v := (-1)) (pc' := 12) dX6_itemPermission_11 (by decide) rfl ?_
      refine bs_icmp_ne (tgt := 24) (pc' := 15) dX6_itemPermission_12 rfl rfl (fun _ => ?_) (fun c12 => absurd c12 (nI_ne_m1 (by omega)))
      refine bs_aload_n (pc' := 25) dX6_itemPermission_24 rfl rfl rfl ?_
      refine bs_getf (pc' := 28) kf_X6_26 dX6_itemPermission_25 mh_y rfl rfl ?_
      refine bs_iload (pc' := 30) dX6_itemPermission_28 rfl rfl ?_
      refine bm_ald (pc' := 31) dX6_itemPermission_30 hA rfl rfl (iPl a c x) rfl (by show _ < 960; omega) rfl ?_
      exact bs_iret dX6_itemPermission_31 rfl ⟨by rw [e], by rw [e]⟩
    · have e : s_itm σ 6 a c x = (-2, err σ 0) := if_neg h
      rw [if_neg h]
      refine bs_iload (pc' := 11) dX6_itemPermission_9 rfl rfl ?_
      refine bs_iconst (v := (-1)) (pc' := 12) dX6_itemPermission_11 (by decide) rfl ?_
      refine bs_icmp_ne (tgt := 24) (pc' := 15) dX6_itemPermission_12 rfl rfl (fun c12 => absurd rfl c12) (fun _ => ?_)
      refine bs_aload_n (pc' := 16) dX6_itemPermission_15 rfl rfl rfl ?_
      refine bs_bipush (v := (-2)) (pc' := 18) dX6_itemPermission_16 (by decide) rfl ?_
      refine bs_callV (N := mX6_error) (pc' := 21) dX6_itemPermission_18 km_X6_93 ko_X6_error (sm_error 0 (by decide) (by decide) hA) mh_y rfl rfl rfl (by omega) (Nat.le_refl _) (Nat.le_refl _) rfl ?_
      rintro _ _ ⟨rfl, rfl⟩
      refine bs_goto (tgt := 31) dX6_itemPermission_21 rfl ?_
      exact bs_iret dX6_itemPermission_31 rfl ⟨by rw [e], by rw [e] <;> rfl⟩
  refine bs_aload_n (pc' := 1) dX6_itemPermission_0 rfl rfl rfl ?_
  refine bs_iload_n (pc' := 2) dX6_itemPermission_1 rfl rfl ?_
  refine bs_iload_n (pc' := 3) dX6_itemPermission_2 rfl rfl ?_
  refine bs_iload_n (pc' := 4) dX6_itemPermission_3 rfl rfl ?_
  refine bs_callV (N := mX6_placeOf) (pc' := 7) dX6_itemPermission_4 km_X6_150 ko_X6_placeOf (sm_placeOf hA hI) mh_y rfl rfl rfl (by omega) (Nat.le_refl _) (Nat.le_refl _) rfl ?_
  rintro _ _ ⟨rfl, rfl⟩
  refine bs_istore (pc' := 9) (lv' := [(0, _), (1, _), (2, _), (3, _), (4, _)]) dX6_itemPermission_7 rfl rfl rfl ?_
  exact j9
theorem sm_itemProtected {a c x : Int32} (hA : mOk y A) (hI : mInv σ) : mSp G h0 y A σ hs mX6_itemProtected 4 [.int a, .int c, .int x] (mQ2 G h0 y A hs (s_itp σ a c x)) := by
  refine bs_Sp.of (by decide) rfl ?_
  have j9 : mB G h0 y A σ hs mX6_itemProtected 4 9 [(0, .ref y), (1, .int a), (2, .int c), (3, .int x), (4, .int (if isI σ a c x = true then nI (iPl a c x) else -1))] [] (mQ2 G h0 y A hs (s_itp σ a c x)) := by
    by_cases h : isI σ a c x = true
    · obtain ⟨j, i, k, -, -, -, -, -, -, h1, h2, h3, ep⟩ := isI_t hI h
      have e : s_itp σ a c x = (if 0 < σ 7 (iPl a c x) then 1 else 0, σ) := if_pos h
      rw [if_pos h]
      refine bs_iload (pc' := 11) dX6_itemProtected_9 rfl rfl ?_
      refine bs_iconst (v := (-1)) (pc' := 12) dX6_itemProtected_11 (by decide) rfl ?_
      refine bs_icmp_ne (tgt := 24) (pc' := 15) dX6_itemProtected_12 rfl rfl (fun _ => ?_) (fun c12 => absurd c12 (nI_ne_m1 (by omega)))
      refine bs_aload_n (pc' := 25) dX6_itemProtected_24 rfl rfl rfl ?_
      refine bs_getf (pc' := 28) kf_X6_29 dX6_itemProtected_25 mh_y rfl rfl ?_
      refine bs_iload (pc' := 30) dX6_itemProtected_28 rfl rfl ?_
      refine bm_ald (pc' := 31) dX6_itemProtected_30 hA rfl rfl (iPl a c x) rfl (by show _ < 960; omega) rfl ?_
      refine bs_if_le (tgt := 38) (pc' := 34) dX6_itemProtected_31 rfl rfl (fun c31 => ?_) (fun c31 => ?_)
      · refine bs_iconst (v := 0) (pc' := 39) dX6_itemProtected_38 (by decide) rfl ?_
        exact bs_iret dX6_itemProtected_39 rfl ⟨by rw [e]; first | (rw [if_neg (Int32.not_lt.mpr c31)]; done) | (rw [if_pos (Int32.not_le.mp c31)]; done), by rw [e]⟩
      · refine bs_iconst (v := 1) (pc' := 35) dX6_itemProtected_34 (by decide) rfl ?_
        refine bs_goto (tgt := 39) dX6_itemProtected_35 rfl ?_
        exact bs_iret dX6_itemProtected_39 rfl ⟨by rw [e]; first | (rw [if_neg (Int32.not_lt.mpr c31)]; done) | (rw [if_pos (Int32.not_le.mp c31)]; done), by rw [e]⟩
    · have e : s_itp σ a c x = (-2, err σ 0) := if_neg h
      rw [if_neg h]
      refine bs_iload (pc' := 11) dX6_itemProtected_9 rfl rfl ?_
      refine bs_iconst (v := (-1)) (pc' := 12) dX6_itemProtected_11 (by decide) rfl ?_
      refine bs_icmp_ne (tgt := 24) (pc' := 15) dX6_itemProtected_12 rfl rfl (fun c12 => absurd rfl c12) (fun _ => ?_)
      refine bs_aload_n (pc' := 16) dX6_itemProtected_15 rfl rfl rfl ?_
      refine bs_bipush (v := (-2)) (pc' := 18) dX6_itemProtected_16 (by decide) rfl ?_
      refine bs_callV (N := mX6_error) (pc' := 21) dX6_itemProtected_18 km_X6_93 ko_X6_error (sm_error 0 (by decide) (by decide) hA) mh_y rfl rfl rfl (by omega) (Nat.le_refl _) (Nat.le_refl _) rfl ?_
      rintro _ _ ⟨rfl, rfl⟩
      refine bs_goto (tgt := 39) dX6_itemProtected_21 rfl ?_
      exact bs_iret dX6_itemProtected_39 rfl ⟨by rw [e], by rw [e] <;> rfl⟩
  refine bs_aload_n (pc' := 1) dX6_itemProtected_0 rfl rfl rfl ?_
  refine bs_iload_n (pc' := 2) dX6_itemProtected_1 rfl rfl ?_
  refine bs_iload_n (pc' := 3) dX6_itemProtected_2 rfl rfl ?_
  refine bs_iload_n (pc' := 4) dX6_itemProtected_3 rfl rfl ?_
  refine bs_callV (N := mX6_placeOf) (pc' := 7) dX6_itemProtected_4 km_X6_150 ko_X6_placeOf (sm_placeOf hA hI) mh_y rfl rfl rfl (by omega) (Nat.le_refl _) (Nat.le_refl _) rfl ?_
  rintro _ _ ⟨rfl, rfl⟩
  refine bs_istore (pc' := 9) (lv' := [(0, _), (1, _), (2, _), (3, _), (4, _)]) dX6_itemProtected_7 rfl rfl rfl ?_
  exact j9
theorem sm_allocationOf {p : Int32} (hA : mOk y A) (hI : mInv σ) : mSp G h0 y A σ hs mX6_allocationOf 2 [.int p] (mQ2 G h0 y A hs (s_ptr σ 9 p)) := by
  refine bs_Sp.of (by decide) rfl ?_
  refine bs_aload_n (pc' := 1) dX6_allocationOf_0 rfl rfl rfl ?_
  refine bs_iload_n (pc' := 2) dX6_allocationOf_1 rfl rfl ?_
  refine bs_callV (N := mX6_isPointer) (pc' := 5) dX6_allocationOf_2 km_X6_71 ko_X6_isPointer (sm_isPointer hI) mh_y rfl rfl rfl (by omega) (Nat.le_refl _) (Nat.le_refl _) rfl ?_
  rintro _ _ ⟨rfl, rfl⟩
  refine bs_if_eq (tgt := 17) (pc' := 8) dX6_allocationOf_5 rfl rfl (fun c5 => ?_) (fun c5 => ?_)
  · have e : s_ptr σ 9 p = (-2, err σ 0) := if_neg (by rw [bI_0] at c5; rw [c5]; decide)
    refine bs_aload_n (pc' := 18) dX6_allocationOf_17 rfl rfl rfl ?_
    refine bs_bipush (v := (-2)) (pc' := 20) dX6_allocationOf_18 (by decide) rfl ?_
    refine bs_callV (N := mX6_error) (pc' := 23) dX6_allocationOf_20 km_X6_93 ko_X6_error (sm_error 0 (by decide) (by decide) hA) mh_y rfl rfl rfl (by omega) (Nat.le_refl _) (Nat.le_refl _) rfl ?_
    rintro _ _ ⟨rfl, rfl⟩
    exact bs_iret dX6_allocationOf_23 rfl ⟨by rw [e], by rw [e] <;> rfl⟩
  · rw [bI_n0] at c5
    have hc5 := c5
    obtain ⟨j, hj, rfl⟩ := inb_t (by have := hI.nP.2; omega) c5
    have h60 := hI.p60 hj
    have e : s_ptr σ 9 (nI j) = (σ 9 j, σ) := by rw [s_ptr, if_pos hc5, zN_nI (by omega)]
    refine bs_aload_n (pc' := 9) dX6_allocationOf_8 rfl rfl rfl ?_
    refine bs_getf (pc' := 12) kf_X6_32 dX6_allocationOf_9 mh_y rfl rfl ?_
    refine bs_iload_n (pc' := 13) dX6_allocationOf_12 rfl rfl ?_
    refine bm_ald (pc' := 14) dX6_allocationOf_13 hA rfl rfl j rfl h60 rfl ?_
    refine bs_goto (tgt := 23) dX6_allocationOf_14 rfl ?_
    exact bs_iret dX6_allocationOf_23 rfl ⟨by rw [e], by rw [e] <;> rfl⟩
theorem sm_parent {p : Int32} (hA : mOk y A) (hI : mInv σ) : mSp G h0 y A σ hs mX6_parent 2 [.int p] (mQ2 G h0 y A hs (s_ptr σ 10 p)) := by
  refine bs_Sp.of (by decide) rfl ?_
  refine bs_aload_n (pc' := 1) dX6_parent_0 rfl rfl rfl ?_
  refine bs_iload_n (pc' := 2) dX6_parent_1 rfl rfl ?_
  refine bs_callV (N := mX6_isPointer) (pc' := 5) dX6_parent_2 km_X6_71 ko_X6_isPointer (sm_isPointer hI) mh_y rfl rfl rfl (by omega) (Nat.le_refl _) (Nat.le_refl _) rfl ?_
  rintro _ _ ⟨rfl, rfl⟩
  refine bs_if_eq (tgt := 17) (pc' := 8) dX6_parent_5 rfl rfl (fun c5 => ?_) (fun c5 => ?_)
  · have e : s_ptr σ 10 p = (-2, err σ 0) := if_neg (by rw [bI_0] at c5; rw [c5]; decide)
    refine bs_aload_n (pc' := 18) dX6_parent_17 rfl rfl rfl ?_
    refine bs_bipush (v := (-2)) (pc' := 20) dX6_parent_18 (by decide) rfl ?_
    refine bs_callV (N := mX6_error) (pc' := 23) dX6_parent_20 km_X6_93 ko_X6_error (sm_error 0 (by decide) (by decide) hA) mh_y rfl rfl rfl (by omega) (Nat.le_refl _) (Nat.le_refl _) rfl ?_
    rintro _ _ ⟨rfl, rfl⟩
    exact bs_iret dX6_parent_23 rfl ⟨by rw [e], by rw [e] <;> rfl⟩
  · rw [bI_n0] at c5
    have hc5 := c5
    obtain ⟨j, hj, rfl⟩ := inb_t (by have := hI.nP.2; omega) c5
    have h60 := hI.p60 hj
    have e : s_ptr σ 10 (nI j) = (σ 10 j, σ) := by rw [s_ptr, if_pos hc5, zN_nI (by omega)]
    refine bs_aload_n (pc' := 9) dX6_parent_8 rfl rfl rfl ?_
    refine bs_getf (pc' := 12) kf_X6_35 dX6_parent_9 mh_y rfl rfl ?_
    refine bs_iload_n (pc' := 13) dX6_parent_12 rfl rfl ?_
    refine bm_ald (pc' := 14) dX6_parent_13 hA rfl rfl j rfl h60 rfl ?_
    refine bs_goto (tgt := 23) dX6_parent_14 rfl ?_
    exact bs_iret dX6_parent_23 rfl ⟨by rw [e], by rw [e] <;> rfl⟩
theorem sm_liveOf {j : Nat} (hA : mOk y A) (hI : mInv σ) (hj : j < zN (σ 8 0)) : mSp G h0 y A σ hs mX6_liveOf 1 [.int (nI j)] (mQi G h0 y A σ hs (nI (lvO σ j))) := by
  have h60 := hI.p60 hj
  have hcl := (hI.cl (hI.ow hj).2).1
  have hcl2 := hcl.2
  have h10 := hI.ow10 hj
  have howe := hI.owe hj
  have hcl1 := (hI.cl (hI.ow hj).2).2
  refine bs_Sp.of (by decide) rfl ?_
  by_cases hf : σ 2 (zN (σ 9 j)) = 0
  · have loop : ∀ f i m, i + f = zN (σ 1 (zN (σ 9 j))) → mB G h0 y A σ hs mX6_liveOf 1 4 [(0, .ref y), (1, .int (nI j)), (2, .int (nI m)), (3, .int (nI i))] [] (mQi G h0 y A σ hs (nI (m + lvf σ j f i))) := by
      intro f
      induction f with
      | zero =>
        intro i m hi
        refine bs_iload_n (pc' := 5) dX6_liveOf_4 rfl rfl ?_
        refine bs_aload_n (pc' := 6) dX6_liveOf_5 rfl rfl rfl ?_
        refine bs_getf (pc' := 9) kf_X6_7 dX6_liveOf_6 mh_y rfl rfl ?_
        refine bs_aload_n (pc' := 10) dX6_liveOf_9 rfl rfl rfl ?_
        refine bs_getf (pc' := 13) kf_X6_32 dX6_liveOf_10 mh_y rfl rfl ?_
        refine bs_iload_n (pc' := 14) dX6_liveOf_13 rfl rfl ?_
        refine bm_ald (pc' := 15) dX6_liveOf_14 hA rfl rfl j rfl h60 rfl ?_
        refine bm_ald (pc' := 16) dX6_liveOf_15 hA rfl rfl (zN (σ 9 j)) howe h10 rfl ?_
        refine bs_icmp_ge (tgt := 63) (pc' := 19) dX6_liveOf_16 rfl rfl (fun _ => ?_) (fun c16 => absurd (by rw [hcl.1]; exact nI_le (by omega) (by omega)) c16)
        refine bs_iload_n (pc' := 64) dX6_liveOf_63 rfl rfl ?_
        exact bs_iret dX6_liveOf_64 rfl ⟨rfl, rfl⟩
      | succ f ih =>
        intro i m hi
        have hic : isPc σ j i := ⟨hj, by omega⟩
        have hc : cO σ j i < 80 := (hI.cell hic).2
        have hn12 := (hI.sz hc).2
        have j46 : mB G h0 y A σ hs mX6_liveOf 1 46 [(0, .ref y), (1, .int (nI j)), (2, .int (nI m)), (3, .int (nI i))] [.int (oI (gr σ (cO σ j i) (nI j) false)), .int (nI m)] (mQi G h0 y A σ hs (nI (m + lvf σ j (f + 1) i))) := by
          cases hg : gr σ (cO σ j i) (nI j) false with
          | none =>
            have e : lvf σ j (f + 1) i = lvf σ j f (i + 1) := by unfold lvf; rw [hg]; cases f <;> exact Nat.zero_add _
            rw [e]
            refine bs_iconst (v := (-1)) (pc' := 47) dX6_liveOf_46 (by decide) rfl ?_
            refine bs_icmp_eq (tgt := 54) (pc' := 50) dX6_liveOf_47 rfl rfl (fun _ => ?_) (fun c47 => absurd (show oI none = -1 from rfl) c47)
            refine bs_iconst (v := 0) (pc' := 55) dX6_liveOf_54 (by decide) rfl ?_
            refine bs_iadd (pc' := 56) dX6_liveOf_55 rfl ?_
            refine bs_topi (nI m) (by exact Int32.add_zero _) ?_
            refine bs_istore_n (pc' := 57) (lv' := [(0, _), (1, _), (2, _), (3, _)]) dX6_liveOf_56 rfl rfl rfl ?_
            refine bs_iinc (pc' := 60) (lv' := [(0, _), (1, _), (2, _), (3, _)]) dX6_liveOf_57 rfl (nI_i1 i) rfl rfl rfl ?_
            refine bs_goto (tgt := 4) dX6_liveOf_60 rfl ?_
            exact ih (i + 1) m (by omega)
          | some k =>
            have hk := grf_lt hg
            have e : m + lvf σ j (f + 1) i = (m + 1) + lvf σ j f (i + 1) := by
              have e1 : lvf σ j (f + 1) i = 1 + lvf σ j f (i + 1) := by rw [lvf, hg]; rfl
              omega
            rw [e]
            refine bs_iconst (v := (-1)) (pc' := 47) dX6_liveOf_46 (by decide) rfl ?_
            refine bs_icmp_eq (tgt := 54) (pc' := 50) dX6_liveOf_47 rfl rfl (fun c47 => absurd c47 (nI_ne_m1 (k := k) (by omega))) (fun _ => ?_)
            refine bs_iconst (v := 1) (pc' := 51) dX6_liveOf_50 (by decide) rfl ?_
            refine bs_goto (tgt := 55) dX6_liveOf_51 rfl ?_
            refine bs_iadd (pc' := 56) dX6_liveOf_55 rfl ?_
            refine bs_topi (nI (m + 1)) (nI_1 m) ?_
            refine bs_istore_n (pc' := 57) (lv' := [(0, _), (1, _), (2, _), (3, _)]) dX6_liveOf_56 rfl rfl rfl ?_
            refine bs_iinc (pc' := 60) (lv' := [(0, _), (1, _), (2, _), (3, _)]) dX6_liveOf_57 rfl (nI_i1 i) rfl rfl rfl ?_
            refine bs_goto (tgt := 4) dX6_liveOf_60 rfl ?_
            exact ih (i + 1) (m + 1) (by omega)
        refine bs_iload_n (pc' := 5) dX6_liveOf_4 rfl rfl ?_
        refine bs_aload_n (pc' := 6) dX6_liveOf_5 rfl rfl rfl ?_
        refine bs_getf (pc' := 9) kf_X6_7 dX6_liveOf_6 mh_y rfl rfl ?_
        refine bs_aload_n (pc' := 10) dX6_liveOf_9 rfl rfl rfl ?_
        refine bs_getf (pc' := 13) kf_X6_32 dX6_liveOf_10 mh_y rfl rfl ?_
        refine bs_iload_n (pc' := 14) dX6_liveOf_13 rfl rfl ?_
        refine bm_ald (pc' := 15) dX6_liveOf_14 hA rfl rfl j rfl h60 rfl ?_
        refine bm_ald (pc' := 16) dX6_liveOf_15 hA rfl rfl (zN (σ 9 j)) howe h10 rfl ?_
        refine bs_icmp_ge (tgt := 63) (pc' := 19) dX6_liveOf_16 rfl rfl (fun c16 => absurd c16 (by rw [hcl.1]; exact nI_ge (by omega) (by omega))) (fun _ => ?_)
        refine bs_aload_n (pc' := 20) dX6_liveOf_19 rfl rfl rfl ?_
        refine bs_getf (pc' := 23) kf_X6_13 dX6_liveOf_20 mh_y rfl rfl ?_
        refine bs_aload_n (pc' := 24) dX6_liveOf_23 rfl rfl rfl ?_
        refine bs_getf (pc' := 27) kf_X6_32 dX6_liveOf_24 mh_y rfl rfl ?_
        refine bs_iload_n (pc' := 28) dX6_liveOf_27 rfl rfl ?_
        refine bm_ald (pc' := 29) dX6_liveOf_28 hA rfl rfl j rfl h60 rfl ?_
        refine bm_zld (pc' := 30) dX6_liveOf_29 hA (zN (σ 9 j)) howe h10 rfl ?_
        refine bs_if_ne (tgt := 63) (pc' := 33) dX6_liveOf_30 rfl rfl (fun c30 => absurd hf c30) (fun _ => ?_)
        refine bs_iload_n (pc' := 34) dX6_liveOf_33 rfl rfl ?_
        refine bs_aload_n (pc' := 35) dX6_liveOf_34 rfl rfl rfl ?_
        refine bs_aload_n (pc' := 36) dX6_liveOf_35 rfl rfl rfl ?_
        refine bs_iload_n (pc' := 37) dX6_liveOf_36 rfl rfl ?_
        refine bs_iload_n (pc' := 38) dX6_liveOf_37 rfl rfl ?_
        refine bs_callV (N := mX6_cellOf) (pc' := 41) dX6_liveOf_38 km_X6_75 ko_X6_cellOf (sm_cellOf hA hI hic) mh_y rfl rfl rfl (by omega) (Nat.le_refl _) (Nat.le_refl _) rfl ?_
        rintro _ _ ⟨rfl, rfl⟩
        refine bs_iload_n (pc' := 42) dX6_liveOf_41 rfl rfl ?_
        refine bs_iconst (v := 0) (pc' := 43) dX6_liveOf_42 (by decide) rfl ?_
        refine bs_callV (N := mX6_granting) (pc' := 46) dX6_liveOf_43 km_X6_79 ko_X6_granting (sm_granting (w := false) hA hI hc) mh_y rfl rfl rfl (by omega) (Nat.le_refl _) (Nat.le_refl _) rfl ?_
        rintro _ _ ⟨rfl, rfl⟩
        exact j46
    refine bs_iconst (v := 0) (pc' := 1) dX6_liveOf_0 (by decide) rfl ?_
    refine bs_istore_n (pc' := 2) (lv' := [(0, _), (1, _), (2, _)]) dX6_liveOf_1 rfl rfl rfl ?_
    refine bs_iconst (v := 0) (pc' := 3) dX6_liveOf_2 (by decide) rfl ?_
    refine bs_istore_n (pc' := 4) (lv' := [(0, _), (1, _), (2, _), (3, _)]) dX6_liveOf_3 rfl rfl rfl ?_
    have e := loop (zN (σ 1 (zN (σ 9 j)))) 0 0 (Nat.zero_add _)
    rw [lvO, if_pos hf]
    rw [Nat.zero_add] at e
    exact e
  · refine bs_iconst (v := 0) (pc' := 1) dX6_liveOf_0 (by decide) rfl ?_
    refine bs_istore_n (pc' := 2) (lv' := [(0, _), (1, _), (2, _)]) dX6_liveOf_1 rfl rfl rfl ?_
    refine bs_iconst (v := 0) (pc' := 3) dX6_liveOf_2 (by decide) rfl ?_
    refine bs_istore_n (pc' := 4) (lv' := [(0, _), (1, _), (2, _), (3, _)]) dX6_liveOf_3 rfl rfl rfl ?_
    refine bs_iload_n (pc' := 5) dX6_liveOf_4 rfl rfl ?_
    refine bs_aload_n (pc' := 6) dX6_liveOf_5 rfl rfl rfl ?_
    refine bs_getf (pc' := 9) kf_X6_7 dX6_liveOf_6 mh_y rfl rfl ?_
    refine bs_aload_n (pc' := 10) dX6_liveOf_9 rfl rfl rfl ?_
    refine bs_getf (pc' := 13) kf_X6_32 dX6_liveOf_10 mh_y rfl rfl ?_
    refine bs_iload_n (pc' := 14) dX6_liveOf_13 rfl rfl ?_
    refine bm_ald (pc' := 15) dX6_liveOf_14 hA rfl rfl j rfl h60 rfl ?_
    refine bm_ald (pc' := 16) dX6_liveOf_15 hA rfl rfl (zN (σ 9 j)) howe h10 rfl ?_
    refine bs_icmp_ge (tgt := 63) (pc' := 19) dX6_liveOf_16 rfl rfl (fun c16 => absurd c16 (by rw [hcl.1]; exact nI_ge (a := 0) (by omega) (by omega))) (fun _ => ?_)
    refine bs_aload_n (pc' := 20) dX6_liveOf_19 rfl rfl rfl ?_
    refine bs_getf (pc' := 23) kf_X6_13 dX6_liveOf_20 mh_y rfl rfl ?_
    refine bs_aload_n (pc' := 24) dX6_liveOf_23 rfl rfl rfl ?_
    refine bs_getf (pc' := 27) kf_X6_32 dX6_liveOf_24 mh_y rfl rfl ?_
    refine bs_iload_n (pc' := 28) dX6_liveOf_27 rfl rfl ?_
    refine bm_ald (pc' := 29) dX6_liveOf_28 hA rfl rfl j rfl h60 rfl ?_
    refine bm_zld (pc' := 30) dX6_liveOf_29 hA (zN (σ 9 j)) howe h10 rfl ?_
    refine bs_if_ne (tgt := 63) (pc' := 33) dX6_liveOf_30 rfl rfl (fun _ => ?_) (fun c30 => absurd c30 hf)
    refine bs_iload_n (pc' := 64) dX6_liveOf_63 rfl rfl ?_
    exact bs_iret dX6_liveOf_64 rfl ⟨by rw [lvO, if_neg hf]; rfl, rfl⟩
theorem sm_liveCells {p : Int32} (hA : mOk y A) (hI : mInv σ) : mSp G h0 y A σ hs mX6_liveCells 2 [.int p] (mQ2 G h0 y A hs (s_liv σ p)) := by
  refine bs_Sp.of (by decide) rfl ?_
  refine bs_aload_n (pc' := 1) dX6_liveCells_0 rfl rfl rfl ?_
  refine bs_iload_n (pc' := 2) dX6_liveCells_1 rfl rfl ?_
  refine bs_callV (N := mX6_isPointer) (pc' := 5) dX6_liveCells_2 km_X6_71 ko_X6_isPointer (sm_isPointer hI) mh_y rfl rfl rfl (by omega) (Nat.le_refl _) (Nat.le_refl _) rfl ?_
  rintro _ _ ⟨rfl, rfl⟩
  refine bs_if_eq (tgt := 16) (pc' := 8) dX6_liveCells_5 rfl rfl (fun c5 => ?_) (fun c5 => ?_)
  · have e : s_liv σ p = (-2, err σ 0) := if_neg (by rw [bI_0] at c5; rw [c5]; decide)
    refine bs_aload_n (pc' := 17) dX6_liveCells_16 rfl rfl rfl ?_
    refine bs_bipush (v := (-2)) (pc' := 19) dX6_liveCells_17 (by decide) rfl ?_
    refine bs_callV (N := mX6_error) (pc' := 22) dX6_liveCells_19 km_X6_93 ko_X6_error (sm_error 0 (by decide) (by decide) hA) mh_y rfl rfl rfl (by omega) (Nat.le_refl _) (Nat.le_refl _) rfl ?_
    rintro _ _ ⟨rfl, rfl⟩
    exact bs_iret dX6_liveCells_22 rfl ⟨by rw [e], by rw [e] <;> rfl⟩
  · rw [bI_n0] at c5
    have hc5 := c5
    obtain ⟨j, hj, rfl⟩ := inb_t (by have := hI.nP.2; omega) c5
    have h60 := hI.p60 hj
    have e : s_liv σ (nI j) = (nI (lvO σ j), σ) := by rw [s_liv, if_pos hc5, zN_nI (by omega)]
    refine bs_aload_n (pc' := 9) dX6_liveCells_8 rfl rfl rfl ?_
    refine bs_iload_n (pc' := 10) dX6_liveCells_9 rfl rfl ?_
    refine bs_callV (N := mX6_liveOf) (pc' := 13) dX6_liveCells_10 km_X6_153 ko_X6_liveOf (sm_liveOf hA hI hj) mh_y rfl rfl rfl (by omega) (Nat.le_refl _) (Nat.le_refl _) rfl ?_
    rintro _ _ ⟨rfl, rfl⟩
    refine bs_goto (tgt := 22) dX6_liveCells_13 rfl ?_
    exact bs_iret dX6_liveCells_22 rfl ⟨by rw [e], by rw [e] <;> rfl⟩
theorem sm_isFreed {a : Int32} (hA : mOk y A) (hI : mInv σ) : mSp G h0 y A σ hs mX6_isFreed 2 [.int a] (mQ2 G h0 y A hs (s_frd σ a)) := by
  refine bs_Sp.of (by decide) rfl ?_
  refine bs_aload_n (pc' := 1) dX6_isFreed_0 rfl rfl rfl ?_
  refine bs_iload_n (pc' := 2) dX6_isFreed_1 rfl rfl ?_
  refine bs_callV (N := mX6_isAllocation) (pc' := 5) dX6_isFreed_2 km_X6_144 ko_X6_isAllocation (sm_isAllocation hI) mh_y rfl rfl rfl (by omega) (Nat.le_refl _) (Nat.le_refl _) rfl ?_
  rintro _ _ ⟨rfl, rfl⟩
  refine bs_if_ne (tgt := 17) (pc' := 8) dX6_isFreed_5 rfl rfl (fun c5 => ?_) (fun c5 => ?_)
  · rw [bI_n0] at c5
    have hc5 := c5
    have h10 := hI.nA.2
    obtain ⟨j, hj, rfl⟩ := inb_t (by omega) c5
    have e : s_frd σ (nI j) = (if σ 2 j = 0 then 0 else 1, σ) := by rw [s_frd, if_pos hc5, zN_nI (by omega)]
    refine bs_aload_n (pc' := 18) dX6_isFreed_17 rfl rfl rfl ?_
    refine bs_getf (pc' := 21) kf_X6_13 dX6_isFreed_18 mh_y rfl rfl ?_
    refine bs_iload_n (pc' := 22) dX6_isFreed_21 rfl rfl ?_
    refine bm_zld (pc' := 23) dX6_isFreed_22 hA j rfl (by omega) rfl ?_
    refine bs_if_eq (tgt := 30) (pc' := 26) dX6_isFreed_23 rfl rfl (fun c23 => ?_) (fun c23 => ?_)
    · refine bs_iconst (v := 0) (pc' := 31) dX6_isFreed_30 (by decide) rfl ?_
      exact bs_iret dX6_isFreed_31 rfl ⟨by rw [e]; first | done | (rw [if_pos c23]; done) | (rw [if_neg c23]; done), by rw [e]; first | done | rfl⟩
    · refine bs_iconst (v := 1) (pc' := 27) dX6_isFreed_26 (by decide) rfl ?_
      refine bs_goto (tgt := 31) dX6_isFreed_27 rfl ?_
      exact bs_iret dX6_isFreed_31 rfl ⟨by rw [e]; first | done | (rw [if_pos c23]; done) | (rw [if_neg c23]; done), by rw [e]; first | done | rfl⟩
  · have e : s_frd σ a = (-2, err σ 0) := if_neg (by rw [bI_0] at c5; rw [c5]; decide)
    refine bs_aload_n (pc' := 9) dX6_isFreed_8 rfl rfl rfl ?_
    refine bs_bipush (v := (-2)) (pc' := 11) dX6_isFreed_9 (by decide) rfl ?_
    refine bs_callV (N := mX6_error) (pc' := 14) dX6_isFreed_11 km_X6_93 ko_X6_error (sm_error 0 (by decide) (by decide) hA) mh_y rfl rfl rfl (by omega) (Nat.le_refl _) (Nat.le_refl _) rfl ?_
    rintro _ _ ⟨rfl, rfl⟩
    refine bs_goto (tgt := 31) dX6_isFreed_14 rfl ?_
    exact bs_iret dX6_isFreed_31 rfl ⟨by rw [e]; first | done | (rw [if_pos c23]; done) | (rw [if_neg c23]; done), by rw [e]; first | done | rfl⟩
theorem sm_pointerCount : mSp G h0 y A σ hs mX6_pointerCount 0 [] (mQi G h0 y A σ hs (σ 8 0)) := by
  refine bs_Sp.of (by decide) rfl ?_
  refine bs_aload_n (pc' := 1) dX6_pointerCount_0 rfl rfl rfl ?_
  refine bs_getf (pc' := 4) kf_X6_64 dX6_pointerCount_1 mh_y rfl rfl ?_
  exact bs_iret dX6_pointerCount_4 rfl ⟨rfl, rfl⟩
theorem sm_callDepth : mSp G h0 y A σ hs mX6_callDepth 0 [] (mQi G h0 y A σ hs (σ 11 0)) := by
  refine bs_Sp.of (by decide) rfl ?_
  refine bs_aload_n (pc' := 1) dX6_callDepth_0 rfl rfl rfl ?_
  refine bs_getf (pc' := 4) kf_X6_127 dX6_callDepth_1 mh_y rfl rfl ?_
  exact bs_iret dX6_callDepth_4 rfl ⟨rfl, rfl⟩
theorem sm_violationCount : mSp G h0 y A σ hs mX6_violationCount 0 [] (mQi G h0 y A σ hs (σ 12 0)) := by
  refine bs_Sp.of (by decide) rfl ?_
  refine bs_aload_n (pc' := 1) dX6_violationCount_0 rfl rfl rfl ?_
  refine bs_getf (pc' := 4) kf_X6_58 dX6_violationCount_1 mh_y rfl rfl ?_
  exact bs_iret dX6_violationCount_4 rfl ⟨rfl, rfl⟩
theorem sm_violationKind : mSp G h0 y A σ hs mX6_violationKind 0 [] (mQi G h0 y A σ hs (σ 13 0)) := by
  refine bs_Sp.of (by decide) rfl ?_
  refine bs_aload_n (pc' := 1) dX6_violationKind_0 rfl rfl rfl ?_
  refine bs_getf (pc' := 4) kf_X6_61 dX6_violationKind_1 mh_y rfl rfl ?_
  exact bs_iret dX6_violationKind_4 rfl ⟨rfl, rfl⟩
theorem sm_violationCell : mSp G h0 y A σ hs mX6_violationCell 0 [] (mQi G h0 y A σ hs (σ 14 0)) := by
  refine bs_Sp.of (by decide) rfl ?_
  refine bs_aload_n (pc' := 1) dX6_violationCell_0 rfl rfl rfl ?_
  refine bs_getf (pc' := 4) kf_X6_38 dX6_violationCell_1 mh_y rfl rfl ?_
  exact bs_iret dX6_violationCell_4 rfl ⟨rfl, rfl⟩
theorem sm_errorCount {k : Int32} (hA : mOk y A) : mSp G h0 y A σ hs mX6_errorCount 1 [.int k] (mQ2 G h0 y A hs (s_erc σ k)) := by
  refine bs_Sp.of (by decide) rfl ?_
  refine bs_iload_n (pc' := 1) dX6_errorCount_0 rfl rfl ?_
  refine bs_iconst (v := 0) (pc' := 2) dX6_errorCount_1 (by decide) rfl ?_
  refine bs_iconst (v := 2) (pc' := 3) dX6_errorCount_2 (by decide) rfl ?_
  refine bs_callS (N := mX6_in) (pc' := 6) dX6_errorCount_3 km_X6_67 ko_X6_in sm_in rfl rfl rfl (by omega) (Nat.le_refl _) (Nat.le_refl _) rfl ?_
  rintro _ _ ⟨rfl, rfl⟩
  refine bs_if_eq (tgt := 18) (pc' := 9) dX6_errorCount_6 rfl rfl (fun c6 => ?_) (fun c6 => ?_)
  · have e : s_erc σ k = (-2, err σ 0) := if_neg (by rw [bI_0, decide_eq_false_iff_not] at c6; exact c6)
    refine bs_aload_n (pc' := 19) dX6_errorCount_18 rfl rfl rfl ?_
    refine bs_bipush (v := (-2)) (pc' := 21) dX6_errorCount_19 (by decide) rfl ?_
    refine bs_callV (N := mX6_error) (pc' := 24) dX6_errorCount_21 km_X6_93 ko_X6_error (sm_error 0 (by decide) (by decide) hA) mh_y rfl rfl rfl (by omega) (Nat.le_refl _) (Nat.le_refl _) rfl ?_
    rintro _ _ ⟨rfl, rfl⟩
    exact bs_iret dX6_errorCount_24 rfl ⟨by rw [e], by rw [e] <;> rfl⟩
  · rw [bI_n0, decide_eq_true_eq] at c6
    obtain ⟨n, h1, e1⟩ := nI_of2 (x := k) (M := 2) (n := 2) rfl (by rw [Int32.not_lt]; exact c6.1) c6.2
    have e : s_erc σ k = (σ 15 n, σ) := by rw [s_erc, if_pos c6, e1, zN_nI (by omega)]
    refine bs_aload_n (pc' := 10) dX6_errorCount_9 rfl rfl rfl ?_
    refine bs_getf (pc' := 13) kf_X6_42 dX6_errorCount_10 mh_y rfl rfl ?_
    refine bs_iload_n (pc' := 14) dX6_errorCount_13 rfl rfl ?_
    refine bm_ald (pc' := 15) dX6_errorCount_14 hA rfl rfl n e1 (by show _ < 3; omega) rfl ?_
    refine bs_goto (tgt := 24) dX6_errorCount_15 rfl ?_
    exact bs_iret dX6_errorCount_24 rfl ⟨by rw [e], by rw [e] <;> rfl⟩
theorem sm_append {v : Int32} (hA : mOk y A) (hI : mInv σ) : mSp G h0 y A σ hs mX6_append 1 [.int v] (mQ2 G h0 y A hs (s_app σ v)) := by
  have hln := hI.ln
  refine bs_Sp.of (by decide) rfl ?_
  refine bs_iload_n (pc' := 1) dX6_append_0 rfl rfl ?_
  refine bs_iconst (v := 0) (pc' := 2) dX6_append_1 (by decide) rfl ?_
  refine bs_bipush (v := 127) (pc' := 4) dX6_append_2 (by decide) rfl ?_
  refine bs_callS (N := mX6_in) (pc' := 7) dX6_append_4 km_X6_67 ko_X6_in sm_in rfl rfl rfl (by omega) (Nat.le_refl _) (Nat.le_refl _) rfl ?_
  rintro _ _ ⟨rfl, rfl⟩
  refine bs_if_ne (tgt := 17) (pc' := 10) dX6_append_7 rfl rfl (fun c7 => ?_) (fun c7 => ?_)
  · rw [bI_n0, decide_eq_true_eq] at c7
    refine bs_aload_n (pc' := 18) dX6_append_17 rfl rfl rfl ?_
    refine bs_getf (pc' := 21) kf_X6_156 dX6_append_18 mh_y rfl rfl ?_
    refine bs_bipush (v := 120) (pc' := 23) dX6_append_21 (by decide) rfl ?_
    refine bs_icmp_ne (tgt := 33) (pc' := 26) dX6_append_23 rfl rfl (fun c23 => ?_) (fun c23 => ?_)
    · have hlt : zN (σ 18 0) < 120 := by
        rcases Nat.lt_or_ge (zN (σ 18 0)) 120 with q | q
        · exact q
        · exact absurd (by rw [hln.1, show zN (σ 18 0) = 120 by have := hln.2; omega]; rfl) c23
      refine bs_aload_n (pc' := 34) dX6_append_33 rfl rfl rfl ?_
      refine bs_getf (pc' := 37) kf_X6_45 dX6_append_34 mh_y rfl rfl ?_
      refine bs_aload_n (pc' := 38) dX6_append_37 rfl rfl rfl ?_
      refine bs_getf (pc' := 41) kf_X6_156 dX6_append_38 mh_y rfl rfl ?_
      refine bs_iload_n (pc' := 42) dX6_append_41 rfl rfl ?_
      refine bm_ast (pc' := 43) dX6_append_42 hA rfl rfl (zN (σ 18 0)) hln.1 hlt rfl ?_
      refine bs_aload_n (pc' := 44) dX6_append_43 rfl rfl rfl ?_
      refine bs_dup (pc' := 45) dX6_append_44 rfl rfl ?_
      refine bs_getf (pc' := 48) kf_X6_156 dX6_append_45 mh_y rfl rfl ?_
      refine bs_iconst (v := 1) (pc' := 49) dX6_append_48 (by decide) rfl ?_
      refine bs_iadd (pc' := 50) dX6_append_49 rfl ?_
      refine bm_put (pc' := 53) kf_X6_156 dX6_append_50 rfl rfl rfl rfl ?_
      refine bs_aload_n (pc' := 54) dX6_append_53 rfl rfl rfl ?_
      refine bs_getf (pc' := 57) kf_X6_156 dX6_append_54 mh_y rfl rfl ?_
      have e : s_app σ v = (σ 18 0 + 1, ms_u (ms_u σ 17 (zN (σ 18 0)) v) 18 0 (σ 18 0 + 1)) := by rw [s_app, if_pos c7, if_neg c23]
      exact bs_iret dX6_append_57 rfl ⟨by rw [e]; rfl, by rw [e] <;> rfl⟩
    · refine bs_aload_n (pc' := 27) dX6_append_26 rfl rfl rfl ?_
      refine bs_bipush (v := (-4)) (pc' := 29) dX6_append_27 (by decide) rfl ?_
      refine bs_callV (N := mX6_error) (pc' := 32) dX6_append_29 km_X6_93 ko_X6_error (sm_error 2 (by decide) (by decide) hA) mh_y rfl rfl rfl (by omega) (Nat.le_refl _) (Nat.le_refl _) rfl ?_
      rintro _ _ ⟨rfl, rfl⟩
      have e : s_app σ v = (-4, err σ 2) := by rw [s_app, if_pos c7, if_pos c23]
      exact bs_iret dX6_append_32 rfl ⟨by rw [e], by rw [e] <;> rfl⟩
  · refine bs_aload_n (pc' := 11) dX6_append_10 rfl rfl rfl ?_
    refine bs_bipush (v := (-2)) (pc' := 13) dX6_append_11 (by decide) rfl ?_
    refine bs_callV (N := mX6_error) (pc' := 16) dX6_append_13 km_X6_93 ko_X6_error (sm_error 0 (by decide) (by decide) hA) mh_y rfl rfl rfl (by omega) (Nat.le_refl _) (Nat.le_refl _) rfl ?_
    rintro _ _ ⟨rfl, rfl⟩
    have e : s_app σ v = (-2, err σ 0) := if_neg (by rw [bI_0, decide_eq_false_iff_not] at c7; exact c7)
    exact bs_iret dX6_append_16 rfl ⟨by rw [e], by rw [e] <;> rfl⟩
theorem sm_clearText : mSp G h0 y A σ hs mX6_clearText 0 [] (mQ2 G h0 y A hs (s_clt σ)) := by
  refine bs_Sp.of (by decide) rfl ?_
  refine bs_aload_n (pc' := 1) dX6_clearText_0 rfl rfl rfl ?_
  refine bs_getf (pc' := 4) kf_X6_156 dX6_clearText_1 mh_y rfl rfl ?_
  refine bs_istore_n (pc' := 5) (lv' := [(0, _), (1, _)]) dX6_clearText_4 rfl rfl rfl ?_
  refine bs_aload_n (pc' := 6) dX6_clearText_5 rfl rfl rfl ?_
  refine bs_iconst (v := 0) (pc' := 7) dX6_clearText_6 (by decide) rfl ?_
  refine bm_put (pc' := 10) kf_X6_156 dX6_clearText_7 rfl rfl rfl rfl ?_
  refine bs_iload_n (pc' := 11) dX6_clearText_10 rfl rfl ?_
  exact bs_iret dX6_clearText_11 rfl ⟨rfl, rfl⟩
end Model5
