section Model3
variable {G : GG} {h0 : Hp} {y : Nat} {A : Nat → Nat} {σ : MS} {hs : Int64}
abbrev mQ2 (G : GG) (h0 : Hp) (y : Nat) (A : Nat → Nat) (hs : Int64) (r : Int32 × MS) : Option Value → Hp → Prop := mQi G h0 y A r.2 hs r.1
theorem sm_read {p c : Int32} (hA : mOk y A) (hI : mInv σ) : mSp G h0 y A σ hs mX6_read 3 [.int p, .int c] (mQ2 G h0 y A hs (s_read σ p c)) := by
  refine bs_Sp.of (by decide) rfl ?_
  refine bs_aload_n (pc' := 1) dX6_read_0 rfl rfl rfl ?_
  refine bs_iload_n (pc' := 2) dX6_read_1 rfl rfl ?_
  refine bs_iload_n (pc' := 3) dX6_read_2 rfl rfl ?_
  refine bs_callV (N := mX6_isCell) (pc' := 6) dX6_read_3 km_X6_107 ko_X6_isCell (sm_isCell hA hI) mh_y rfl rfl rfl (by omega) (Nat.le_refl _) (Nat.le_refl _) rfl ?_
  rintro _ _ ⟨rfl, rfl⟩
  refine bs_if_ne (tgt := 16) (pc' := 9) dX6_read_6 rfl rfl (fun c6 => ?_) (fun c6 => ?_)
  · rw [bI_n0] at c6
    have hc6 := c6
    obtain ⟨j, i, rfl, rfl, hp⟩ := isC_t hI c6
    have hp8 := hI.cell hp
    have hz1 : zN (nI j) = j := zN_nI (by have := hI.p60 hp.1; omega)
    have hz2 : zN (nI i) = i := zN_nI (by omega)
    refine bs_aload_n (pc' := 17) dX6_read_16 rfl rfl rfl ?_
    refine bs_iload_n (pc' := 18) dX6_read_17 rfl rfl ?_
    refine bs_iload_n (pc' := 19) dX6_read_18 rfl rfl ?_
    refine bs_callV (N := mX6_readKind) (pc' := 22) dX6_read_19 km_X6_111 ko_X6_readKind (sm_readKind hA hI hp) mh_y rfl rfl rfl (by omega) (Nat.le_refl _) (Nat.le_refl _) rfl ?_
    rintro _ _ ⟨rfl, rfl⟩
    refine bs_istore_n (pc' := 23) (lv' := [(0, _), (1, _), (2, _), (3, _)]) dX6_read_22 rfl rfl rfl ?_
    refine bs_iload_n (pc' := 24) dX6_read_23 rfl rfl ?_
    refine bs_if_eq (tgt := 34) (pc' := 27) dX6_read_24 rfl rfl (fun c24 => ?_) (fun c24 => ?_)
    · refine bs_aload_n (pc' := 35) dX6_read_34 rfl rfl rfl ?_
      refine bs_iload_n (pc' := 36) dX6_read_35 rfl rfl ?_
      refine bs_iload_n (pc' := 37) dX6_read_36 rfl rfl ?_
      refine bs_callV (N := mX6_doRead) (pc' := 40) dX6_read_37 km_X6_117 ko_X6_doRead (sm_doRead hA hI hp) mh_y rfl rfl rfl (by omega) (Nat.le_refl _) (Nat.le_refl _) rfl ?_
      rintro _ _ ⟨rfl, rfl⟩
      refine bs_aload_n (pc' := 41) dX6_read_40 rfl rfl rfl ?_
      refine bs_getf (pc' := 44) kf_X6_17 dX6_read_41 mh_y rfl rfl ?_
      refine bs_aload_n (pc' := 45) dX6_read_44 rfl rfl rfl ?_
      refine bs_iload_n (pc' := 46) dX6_read_45 rfl rfl ?_
      refine bs_iload_n (pc' := 47) dX6_read_46 rfl rfl ?_
      refine bs_callV (N := mX6_cellOf) (pc' := 50) dX6_read_47 km_X6_75 ko_X6_cellOf (sm_cellOf hA (mInv_dRd hI) (by unfold isPc dRd; rw [dis_n (by decide), dis_n (by decide), dis_n (by decide)]; exact hp)) mh_y rfl rfl rfl (by omega) (Nat.le_refl _) (Nat.le_refl _) rfl ?_
      rintro _ _ ⟨rfl, rfl⟩
      refine bm_ald (pc' := 51) dX6_read_50 hA rfl rfl (cO (dRd σ j i) j i) rfl (by unfold cO dRd; rw [dis_n (by decide)]; exact hp8.2) rfl ?_
      have e : s_read σ (nI j) (nI i) = (σ 3 (cO σ j i), dRd σ j i) := by rw [s_read, if_pos hc6, hz1, hz2, if_pos c24]
      have e3 : dRd σ j i 3 (cO (dRd σ j i) j i) = σ 3 (cO σ j i) := by unfold cO dRd; rw [dis_n (by decide), dis_n (by decide)]
      exact bs_iret dX6_read_51 rfl ⟨by rw [e, e3], by rw [e]⟩
    · refine bs_aload_n (pc' := 28) dX6_read_27 rfl rfl rfl ?_
      refine bs_iload_n (pc' := 29) dX6_read_28 rfl rfl ?_
      refine bs_iload_n (pc' := 30) dX6_read_29 rfl rfl ?_
      refine bs_callV (N := mX6_violate) (pc' := 33) dX6_read_30 km_X6_114 ko_X6_violate (sm_violate hA) mh_y rfl rfl rfl (by omega) (Nat.le_refl _) (Nat.le_refl _) rfl ?_
      rintro _ _ ⟨rfl, rfl⟩
      have e : s_read σ (nI j) (nI i) = (-5, vio σ (rdK σ j i) (nI i)) := by rw [s_read, if_pos hc6, hz1, hz2, if_neg c24]
      exact bs_iret dX6_read_33 rfl ⟨by rw [e], by rw [e]; rfl⟩
  · refine bs_aload_n (pc' := 10) dX6_read_9 rfl rfl rfl ?_
    refine bs_bipush (v := (-2)) (pc' := 12) dX6_read_10 (by decide) rfl ?_
    refine bs_callV (N := mX6_error) (pc' := 15) dX6_read_12 km_X6_93 ko_X6_error (sm_error 0 (by decide) (by decide) hA) mh_y rfl rfl rfl (by omega) (Nat.le_refl _) (Nat.le_refl _) rfl ?_
    rintro _ _ ⟨rfl, rfl⟩
    have e : s_read σ p c = (-2, err σ 0) := if_neg (by rw [bI_0] at c6; rw [c6]; decide)
    exact bs_iret dX6_read_15 rfl ⟨by rw [e], by rw [e]; rfl⟩
theorem wrK_0 {p i : Nat} (h : wrK σ p i = 0) : σ 2 (zN (σ 9 p)) = 0 ∧ ∃ k, gr σ (cO σ p i) (nI p) true = some k := by
  unfold wrK at h
  split at h
  · exact absurd h (by decide)
  · next h2 =>
    refine ⟨Classical.not_not.mp h2, ?_⟩
    split at h
    · exact absurd h (by decide)
    · next k hk => exact ⟨k, hk⟩
theorem rwK_0 {p i : Nat} (h : rwK σ p i = 0) : σ 2 (zN (σ 9 p)) = 0 ∧ ∃ k, gr σ (cO σ p i) (nI p) true = some k := by
  unfold rwK at h
  split at h
  · exact absurd h (by decide)
  · next h2 =>
    refine ⟨Classical.not_not.mp h2, ?_⟩
    split at h
    · exact absurd h (by decide)
    · next k hk => exact ⟨k, hk⟩
theorem sm_write {p c v : Int32} (hA : mOk y A) (hI : mInv σ) : mSp G h0 y A σ hs mX6_write 3 [.int p, .int c, .int v] (mQ2 G h0 y A hs (s_write σ p c v)) := by
  refine bs_Sp.of (by decide) rfl ?_
  refine bs_aload_n (pc' := 1) dX6_write_0 rfl rfl rfl ?_
  refine bs_iload_n (pc' := 2) dX6_write_1 rfl rfl ?_
  refine bs_iload_n (pc' := 3) dX6_write_2 rfl rfl ?_
  refine bs_callV (N := mX6_isCell) (pc' := 6) dX6_write_3 km_X6_107 ko_X6_isCell (sm_isCell hA hI) mh_y rfl rfl rfl (by omega) (Nat.le_refl _) (Nat.le_refl _) rfl ?_
  rintro _ _ ⟨rfl, rfl⟩
  refine bs_if_eq (tgt := 19) (pc' := 9) dX6_write_6 rfl rfl (fun c6 => ?_) (fun c6 => ?_)
  · refine bs_aload_n (pc' := 20) dX6_write_19 rfl rfl rfl ?_
    refine bs_bipush (v := (-2)) (pc' := 22) dX6_write_20 (by decide) rfl ?_
    refine bs_callV (N := mX6_error) (pc' := 25) dX6_write_22 km_X6_93 ko_X6_error (sm_error 0 (by decide) (by decide) hA) mh_y rfl rfl rfl (by omega) (Nat.le_refl _) (Nat.le_refl _) rfl ?_
    rintro _ _ ⟨rfl, rfl⟩
    have e : s_write σ p c v = (-2, err σ 0) := if_neg (by first | (rw [bI_0] at c6; rw [c6]; exact fun q => absurd q.1 (by decide)) | (rw [bI_0, decide_eq_false_iff_not] at c16; exact fun q => c16 q.2))
    exact bs_iret dX6_write_25 rfl ⟨by rw [e], by rw [e]; rfl⟩
  · refine bs_iload_n (pc' := 10) dX6_write_9 rfl rfl ?_
    refine bs_iconst (v := 0) (pc' := 11) dX6_write_10 (by decide) rfl ?_
    refine bs_bipush (v := 99) (pc' := 13) dX6_write_11 (by decide) rfl ?_
    refine bs_callS (N := mX6_in) (pc' := 16) dX6_write_13 km_X6_67 ko_X6_in sm_in rfl rfl rfl (by omega) (Nat.le_refl _) (Nat.le_refl _) rfl ?_
    rintro _ _ ⟨rfl, rfl⟩
    refine bs_if_ne (tgt := 26) (pc' := 19) dX6_write_16 rfl rfl (fun c16 => ?_) (fun c16 => ?_)
    · rw [bI_n0] at c6 c16
      rw [decide_eq_true_eq] at c16
      have hc6 := c6
      obtain ⟨j, i, rfl, rfl, hp⟩ := isC_t hI c6
      have hp8 := hI.cell hp
      have hz1 : zN (nI j) = j := zN_nI (by have := hI.p60 hp.1; omega)
      have hz2 : zN (nI i) = i := zN_nI (by omega)
      refine bs_aload_n (pc' := 27) dX6_write_26 rfl rfl rfl ?_
      refine bs_iload_n (pc' := 28) dX6_write_27 rfl rfl ?_
      refine bs_iload_n (pc' := 29) dX6_write_28 rfl rfl ?_
      refine bs_callV (N := mX6_writeKind) (pc' := 32) dX6_write_29 km_X6_90 ko_X6_writeKind (sm_writeKind hA hI hp) mh_y rfl rfl rfl (by omega) (Nat.le_refl _) (Nat.le_refl _) rfl ?_
      rintro _ _ ⟨rfl, rfl⟩
      refine bs_istore (pc' := 34) (lv' := [(0, _), (1, _), (2, _), (3, _), (4, _)]) dX6_write_32 rfl rfl rfl ?_
      refine bs_iload (pc' := 36) dX6_write_34 rfl rfl ?_
      refine bs_if_eq (tgt := 47) (pc' := 39) dX6_write_36 rfl rfl (fun c36 => ?_) (fun c36 => ?_)
      · obtain ⟨-, k, hg⟩ := wrK_0 c36
        have eO : cO (dWr σ j i) j i = cO σ j i := by unfold cO; rw [dWr_n (by decide)]
        refine bs_aload_n (pc' := 48) dX6_write_47 rfl rfl rfl ?_
        refine bs_iload_n (pc' := 49) dX6_write_48 rfl rfl ?_
        refine bs_iload_n (pc' := 50) dX6_write_49 rfl rfl ?_
        refine bs_callV (N := mX6_doWrite) (pc' := 53) dX6_write_50 km_X6_121 ko_X6_doWrite (sm_doWrite hA hI hp hg) mh_y rfl rfl rfl (by omega) (Nat.le_refl _) (Nat.le_refl _) rfl ?_
        rintro _ _ ⟨rfl, rfl⟩
        refine bs_aload_n (pc' := 54) dX6_write_53 rfl rfl rfl ?_
        refine bs_iload_n (pc' := 55) dX6_write_54 rfl rfl ?_
        refine bs_iload_n (pc' := 56) dX6_write_55 rfl rfl ?_
        refine bs_callV (N := mX6_cellOf) (pc' := 59) dX6_write_56 km_X6_75 ko_X6_cellOf (sm_cellOf hA (mInv_dWr hI hp) (by unfold isPc; rw [dWr_n (by decide), dWr_n (by decide), dWr_n (by decide)]; exact hp)) mh_y rfl rfl rfl (by omega) (Nat.le_refl _) (Nat.le_refl _) rfl ?_
        rintro _ _ ⟨rfl, rfl⟩
        refine bs_istore (pc' := 61) (lv' := [(0, _), (1, _), (2, _), (3, _), (4, _), (5, _)]) dX6_write_59 rfl rfl rfl ?_
        refine bs_aload_n (pc' := 62) dX6_write_61 rfl rfl rfl ?_
        refine bs_getf (pc' := 65) kf_X6_17 dX6_write_62 mh_y rfl rfl ?_
        refine bs_iload (pc' := 67) dX6_write_65 rfl rfl ?_
        refine bm_ald (pc' := 68) dX6_write_67 hA rfl rfl (cO (dWr σ j i) j i) rfl (by rw [eO]; exact hp8.2) rfl ?_
        refine bs_istore (pc' := 70) (lv' := [(0, _), (1, _), (2, _), (3, _), (4, _), (5, _), (6, _)]) dX6_write_68 rfl rfl rfl ?_
        refine bs_aload_n (pc' := 71) dX6_write_70 rfl rfl rfl ?_
        refine bs_getf (pc' := 74) kf_X6_17 dX6_write_71 mh_y rfl rfl ?_
        refine bs_iload (pc' := 76) dX6_write_74 rfl rfl ?_
        refine bs_iload_n (pc' := 77) dX6_write_76 rfl rfl ?_
        refine bm_ast (pc' := 78) dX6_write_77 hA rfl rfl (cO (dWr σ j i) j i) rfl (by rw [eO]; exact hp8.2) rfl ?_
        refine bs_iload (pc' := 80) dX6_write_78 rfl rfl ?_
        have e : s_write σ (nI j) (nI i) v = (σ 3 (cO σ j i), ms_u (dWr σ j i) 3 (cO σ j i) v) := by rw [s_write, if_pos ⟨hc6, c16⟩, hz1, hz2, if_pos c36]
        exact bs_iret dX6_write_80 rfl ⟨by rw [e, eO, dWr_n (by decide)], by rw [e, eO]⟩
      · refine bs_aload_n (pc' := 40) dX6_write_39 rfl rfl rfl ?_
        refine bs_iload (pc' := 42) dX6_write_40 rfl rfl ?_
        refine bs_iload_n (pc' := 43) dX6_write_42 rfl rfl ?_
        refine bs_callV (N := mX6_violate) (pc' := 46) dX6_write_43 km_X6_114 ko_X6_violate (sm_violate hA) mh_y rfl rfl rfl (by omega) (Nat.le_refl _) (Nat.le_refl _) rfl ?_
        rintro _ _ ⟨rfl, rfl⟩
        have e : s_write σ (nI j) (nI i) v = (-5, vio σ (wrK σ j i) (nI i)) := by rw [s_write, if_pos ⟨hc6, c16⟩, hz1, hz2, if_neg c36]
        exact bs_iret dX6_write_46 rfl ⟨by rw [e], by rw [e]; rfl⟩
    · refine bs_aload_n (pc' := 20) dX6_write_19 rfl rfl rfl ?_
      refine bs_bipush (v := (-2)) (pc' := 22) dX6_write_20 (by decide) rfl ?_
      refine bs_callV (N := mX6_error) (pc' := 25) dX6_write_22 km_X6_93 ko_X6_error (sm_error 0 (by decide) (by decide) hA) mh_y rfl rfl rfl (by omega) (Nat.le_refl _) (Nat.le_refl _) rfl ?_
      rintro _ _ ⟨rfl, rfl⟩
      have e : s_write σ p c v = (-2, err σ 0) := if_neg (by first | (rw [bI_0] at c6; rw [c6]; exact fun q => absurd q.1 (by decide)) | (rw [bI_0, decide_eq_false_iff_not] at c16; exact fun q => c16 q.2))
      exact bs_iret dX6_write_25 rfl ⟨by rw [e], by rw [e]; rfl⟩
theorem sm_enterCall (hA : mOk y A) : mSp G h0 y A σ hs mX6_enterCall 1 [] (mQ2 G h0 y A hs (s_enter σ)) := by
  refine bs_Sp.of (by decide) rfl ?_
  refine bs_aload_n (pc' := 1) dX6_enterCall_0 rfl rfl rfl ?_
  refine bs_getf (pc' := 4) kf_X6_127 dX6_enterCall_1 mh_y rfl rfl ?_
  refine bs_iconst (v := 5) (pc' := 5) dX6_enterCall_4 (by decide) rfl ?_
  refine bs_icmp_ne (tgt := 15) (pc' := 8) dX6_enterCall_5 rfl rfl (fun c5 => ?_) (fun c5 => ?_)
  · refine bs_aload_n (pc' := 16) dX6_enterCall_15 rfl rfl rfl ?_
    refine bs_dup (pc' := 17) dX6_enterCall_16 rfl rfl ?_
    refine bs_getf (pc' := 20) kf_X6_127 dX6_enterCall_17 mh_y rfl rfl ?_
    refine bs_iconst (v := 1) (pc' := 21) dX6_enterCall_20 (by decide) rfl ?_
    refine bs_iadd (pc' := 22) dX6_enterCall_21 rfl ?_
    refine bm_put (pc' := 25) kf_X6_127 dX6_enterCall_22 rfl rfl rfl rfl ?_
    refine bs_aload_n (pc' := 26) dX6_enterCall_25 rfl rfl rfl ?_
    refine bs_getf (pc' := 29) kf_X6_127 dX6_enterCall_26 mh_y rfl rfl ?_
    have e : s_enter σ = (σ 11 0 + 1, ms_u σ 11 0 (σ 11 0 + 1)) := if_neg c5
    exact bs_iret dX6_enterCall_29 rfl ⟨by rw [e]; rfl, by rw [e]⟩
  · refine bs_aload_n (pc' := 9) dX6_enterCall_8 rfl rfl rfl ?_
    refine bs_bipush (v := (-4)) (pc' := 11) dX6_enterCall_9 (by decide) rfl ?_
    refine bs_callV (N := mX6_error) (pc' := 14) dX6_enterCall_11 km_X6_93 ko_X6_error (sm_error 2 (by decide) (by decide) hA) mh_y rfl rfl rfl (by omega) (Nat.le_refl _) (Nat.le_refl _) rfl ?_
    rintro _ _ ⟨rfl, rfl⟩
    have e : s_enter σ = (-4, err σ 2) := if_pos c5
    exact bs_iret dX6_enterCall_14 rfl ⟨by rw [e], by rw [e]; rfl⟩
theorem sm_leaveCall (hA : mOk y A) : mSp G h0 y A σ hs mX6_leaveCall 1 [] (mQ2 G h0 y A hs (s_leave σ)) := by
  refine bs_Sp.of (by decide) rfl ?_
  have loop : ¬ σ 11 0 = 0 → ∀ f j, j + f = 960 → mB G h0 y A (clr σ j) hs mX6_leaveCall 1 16 [(0, .ref y), (1, .int (nI j))] [] (mQ2 G h0 y A hs (s_leave σ)) := by
    intro c4 f
    induction f with
    | zero =>
      intro j hj
      have hj' : j = 960 := by omega
      subst hj'
      refine bs_iload_n (pc' := 17) dX6_leaveCall_16 rfl rfl ?_
      refine bs_sipush (v := 960) (pc' := 20) dX6_leaveCall_17 (by decide) rfl ?_
      refine bs_icmp_ge (tgt := 58) (pc' := 23) dX6_leaveCall_20 rfl rfl (fun _ => ?_) (fun c20 => absurd (by decide) c20)
      refine bs_aload_n (pc' := 59) dX6_leaveCall_58 rfl rfl rfl ?_
      refine bs_dup (pc' := 60) dX6_leaveCall_59 rfl rfl ?_
      refine bs_getf (pc' := 63) kf_X6_127 dX6_leaveCall_60 mh_y rfl rfl ?_
      refine bs_iconst (v := 1) (pc' := 64) dX6_leaveCall_63 (by decide) rfl ?_
      refine bs_isub (pc' := 65) dX6_leaveCall_64 rfl ?_
      refine bm_put (pc' := 68) kf_X6_127 dX6_leaveCall_65 rfl rfl rfl rfl ?_
      refine bs_aload_n (pc' := 69) dX6_leaveCall_68 rfl rfl rfl ?_
      refine bs_getf (pc' := 72) kf_X6_127 dX6_leaveCall_69 mh_y rfl rfl ?_
      have e : s_leave σ = (σ 11 0 - 1, ms_u (clr σ 960) 11 0 (σ 11 0 - 1)) := if_neg c4
      have e11 : clr σ 960 11 0 = σ 11 0 := by rw [clr_n (by decide)]
      exact bs_iret dX6_leaveCall_72 rfl ⟨by rw [e]; show some (Value.int (clr σ 960 11 0 - 1)) = _; rw [e11], by rw [e, e11]⟩
    | succ f ih =>
      intro j hj
      have e7 : clr σ j 7 j = σ 7 j := clr_at (Nat.le_refl _)
      have e11 : clr σ j 11 0 = σ 11 0 := by rw [clr_n (by decide)]
      have j51 : ∀ z, z = (if σ 7 j = σ 11 0 then 0 else σ 7 j) → mB G h0 y A (clr σ j) hs mX6_leaveCall 1 51 [(0, .ref y), (1, .int (nI j))] [.int z, .int (nI j), .ref (A 7)] (mQ2 G h0 y A hs (s_leave σ)) := by
        intro z hz
        subst hz
        refine bm_ast (pc' := 52) dX6_leaveCall_51 hA rfl rfl j rfl (by show _ < 960; omega) rfl ?_
        rw [clr_s]
        refine bs_iinc (pc' := 55) (lv' := [(0, _), (1, _)]) dX6_leaveCall_52 rfl (nI_i1 j) rfl rfl rfl ?_
        refine bs_goto (tgt := 16) dX6_leaveCall_55 rfl ?_
        exact ih (j + 1) (by omega)
      refine bs_iload_n (pc' := 17) dX6_leaveCall_16 rfl rfl ?_
      refine bs_sipush (v := 960) (pc' := 20) dX6_leaveCall_17 (by decide) rfl ?_
      refine bs_icmp_ge (tgt := 58) (pc' := 23) dX6_leaveCall_20 rfl rfl (fun c20 => absurd c20 (by exact nI_ge (b := 960) (by omega) (by decide))) (fun _ => ?_)
      refine bs_aload_n (pc' := 24) dX6_leaveCall_23 rfl rfl rfl ?_
      refine bs_getf (pc' := 27) kf_X6_29 dX6_leaveCall_24 mh_y rfl rfl ?_
      refine bs_iload_n (pc' := 28) dX6_leaveCall_27 rfl rfl ?_
      refine bs_aload_n (pc' := 29) dX6_leaveCall_28 rfl rfl rfl ?_
      refine bs_getf (pc' := 32) kf_X6_29 dX6_leaveCall_29 mh_y rfl rfl ?_
      refine bs_iload_n (pc' := 33) dX6_leaveCall_32 rfl rfl ?_
      refine bm_ald (pc' := 34) dX6_leaveCall_33 hA rfl rfl j rfl (by show _ < 960; omega) rfl ?_
      refine bs_aload_n (pc' := 35) dX6_leaveCall_34 rfl rfl rfl ?_
      refine bs_getf (pc' := 38) kf_X6_127 dX6_leaveCall_35 mh_y rfl rfl ?_
      refine bs_icmp_ne (tgt := 45) (pc' := 41) dX6_leaveCall_38 rfl rfl (fun c38 => ?_) (fun c38 => ?_)
      · refine bs_aload_n (pc' := 46) dX6_leaveCall_45 rfl rfl rfl ?_
        refine bs_getf (pc' := 49) kf_X6_29 dX6_leaveCall_46 mh_y rfl rfl ?_
        refine bs_iload_n (pc' := 50) dX6_leaveCall_49 rfl rfl ?_
        refine bm_ald (pc' := 51) dX6_leaveCall_50 hA rfl rfl j rfl (by show _ < 960; omega) rfl ?_
        rw [e7, e11] at c38
        exact j51 _ (by first | rw [if_pos c38] | rw [if_neg c38, e7])
      · refine bs_iconst (v := 0) (pc' := 42) dX6_leaveCall_41 (by decide) rfl ?_
        refine bs_goto (tgt := 51) dX6_leaveCall_42 rfl ?_
        rw [e7, e11] at c38
        exact j51 _ (by first | rw [if_pos c38] | rw [if_neg c38, e7])
  refine bs_aload_n (pc' := 1) dX6_leaveCall_0 rfl rfl rfl ?_
  refine bs_getf (pc' := 4) kf_X6_127 dX6_leaveCall_1 mh_y rfl rfl ?_
  refine bs_if_ne (tgt := 14) (pc' := 7) dX6_leaveCall_4 rfl rfl (fun c4 => ?_) (fun c4 => ?_)
  · refine bs_iconst (v := 0) (pc' := 15) dX6_leaveCall_14 (by decide) rfl ?_
    refine bs_istore_n (pc' := 16) (lv' := [(0, _), (1, _)]) dX6_leaveCall_15 rfl rfl rfl ?_
    have e := loop c4 960 0 rfl
    rw [clr_0] at e
    exact e
  · refine bs_aload_n (pc' := 8) dX6_leaveCall_7 rfl rfl rfl ?_
    refine bs_bipush (v := (-3)) (pc' := 10) dX6_leaveCall_8 (by decide) rfl ?_
    refine bs_callV (N := mX6_error) (pc' := 13) dX6_leaveCall_10 km_X6_93 ko_X6_error (sm_error 1 (by decide) (by decide) hA) mh_y rfl rfl rfl (by omega) (Nat.le_refl _) (Nat.le_refl _) rfl ?_
    rintro _ _ ⟨rfl, rfl⟩
    have e : s_leave σ = (-3, err σ 1) := if_pos c4
    exact bs_iret dX6_leaveCall_13 rfl ⟨by rw [e], by rw [e]; rfl⟩
theorem sm_free {p : Int32} (hA : mOk y A) (hI : mInv σ) : mSp G h0 y A σ hs mX6_free 3 [.int p] (mQ2 G h0 y A hs (s_free σ p)) := by
  refine bs_Sp.of (by decide) rfl ?_
  have loop : ∀ j n, j < zN (σ 8 0) → n = zN (σ 1 (zN (σ 9 j))) → ∀ f i, i + f = n → fsV (frK σ j) n 0 = fsV (frK σ j) f i → mB G h0 y A σ hs mX6_free 3 24 [(0, .ref y), (1, .int (nI j)), (2, .int (σ 9 j)), (3, .int (nI i))] [] (mQ2 G h0 y A hs (s_free σ (nI j))) := by
    intro j n hj hn f
    have h60 := hI.p60 hj
    have hz1 : zN (nI j) = j := zN_nI (by omega)
    have hnP := hI.nP.2
    have hib : inb (nI j) (zN (σ 8 0)) = true := inb_nI hj (by omega)
    have hcl := (hI.cl (hI.ow hj).2).1
    have hcl2 := hcl.2
    have h10 := hI.ow10 hj
    have howe := hI.owe hj
    induction f with
    | zero =>
      intro i hi hf
      have e : s_free σ (nI j) = (σ 1 (zN (σ 9 j)), ms_u σ 2 (zN (σ 9 j)) 1) := by
        rw [s_free, if_pos hib, hz1, ← hn, hf]
        rfl
      refine bs_iload_n (pc' := 25) dX6_free_24 rfl rfl ?_
      refine bs_aload_n (pc' := 26) dX6_free_25 rfl rfl rfl ?_
      refine bs_getf (pc' := 29) kf_X6_7 dX6_free_26 mh_y rfl rfl ?_
      refine bs_iload_n (pc' := 30) dX6_free_29 rfl rfl ?_
      refine bm_ald (pc' := 31) dX6_free_30 hA rfl rfl (zN (σ 9 j)) howe h10 rfl ?_
      refine bs_icmp_ge (tgt := 61) (pc' := 34) dX6_free_31 rfl rfl (fun _ => ?_) (fun c31 => absurd (by rw [hcl.1]; exact nI_le (by omega) (by omega)) c31)
      refine bs_aload_n (pc' := 62) dX6_free_61 rfl rfl rfl ?_
      refine bs_getf (pc' := 65) kf_X6_13 dX6_free_62 mh_y rfl rfl ?_
      refine bs_iload_n (pc' := 66) dX6_free_65 rfl rfl ?_
      refine bs_iconst (v := 1) (pc' := 67) dX6_free_66 (by decide) rfl ?_
      refine bm_zst (pc' := 68) dX6_free_67 hA (zN (σ 9 j)) howe h10 (by decide) rfl ?_
      refine bs_aload_n (pc' := 69) dX6_free_68 rfl rfl rfl ?_
      refine bs_getf (pc' := 72) kf_X6_7 dX6_free_69 mh_y rfl rfl ?_
      refine bs_iload_n (pc' := 73) dX6_free_72 rfl rfl ?_
      refine bm_ald (pc' := 74) dX6_free_73 hA rfl rfl (zN (σ 9 j)) howe h10 rfl ?_
      exact bs_iret dX6_free_74 rfl ⟨by rw [e]; rfl, by rw [e]⟩
    | succ f ih =>
      intro i hi hf
      have hic : isPc σ j i := ⟨hj, by omega⟩
      refine bs_iload_n (pc' := 25) dX6_free_24 rfl rfl ?_
      refine bs_aload_n (pc' := 26) dX6_free_25 rfl rfl rfl ?_
      refine bs_getf (pc' := 29) kf_X6_7 dX6_free_26 mh_y rfl rfl ?_
      refine bs_iload_n (pc' := 30) dX6_free_29 rfl rfl ?_
      refine bm_ald (pc' := 31) dX6_free_30 hA rfl rfl (zN (σ 9 j)) howe h10 rfl ?_
      refine bs_icmp_ge (tgt := 61) (pc' := 34) dX6_free_31 rfl rfl (fun c31 => absurd c31 (by rw [hcl.1]; exact nI_ge (by omega) (by omega))) (fun _ => ?_)
      refine bs_aload_n (pc' := 35) dX6_free_34 rfl rfl rfl ?_
      refine bs_iload_n (pc' := 36) dX6_free_35 rfl rfl ?_
      refine bs_iload_n (pc' := 37) dX6_free_36 rfl rfl ?_
      refine bs_callV (N := mX6_freeKind) (pc' := 40) dX6_free_37 km_X6_141 ko_X6_freeKind (sm_freeKind hA hI hic) mh_y rfl rfl rfl (by omega) (Nat.le_refl _) (Nat.le_refl _) rfl ?_
      rintro _ _ ⟨rfl, rfl⟩
      refine bs_istore (pc' := 42) (lv' := [(0, _), (1, _), (2, _), (3, _), (4, _)]) dX6_free_40 rfl rfl rfl ?_
      refine bs_iload (pc' := 44) dX6_free_42 rfl rfl ?_
      refine bs_if_eq (tgt := 55) (pc' := 47) dX6_free_44 rfl rfl (fun c44 => ?_) (fun c44 => ?_)
      · refine bs_iinc (pc' := 58) (lv' := [(0, _), (1, _), (2, _), (3, _), (4, _)]) dX6_free_55 rfl (nI_i1 i) rfl rfl rfl ?_
        refine bs_goto (tgt := 24) dX6_free_58 rfl ?_
        refine bs_sub (lv' := [(0, _), (1, _), (2, _), (3, _)]) [0, 1, 2, 3] rfl ?_
        exact ih (i + 1) (by omega) (by rw [hf]; show fsV (frK σ j) (f + 1) i = _; unfold fsV; rw [if_pos c44]; cases f <;> rfl)
      · refine bs_aload_n (pc' := 48) dX6_free_47 rfl rfl rfl ?_
        refine bs_iload (pc' := 50) dX6_free_48 rfl rfl ?_
        refine bs_iload_n (pc' := 51) dX6_free_50 rfl rfl ?_
        refine bs_callV (N := mX6_violate) (pc' := 54) dX6_free_51 km_X6_114 ko_X6_violate (sm_violate hA) mh_y rfl rfl rfl (by omega) (Nat.le_refl _) (Nat.le_refl _) rfl ?_
        rintro _ _ ⟨rfl, rfl⟩
        have e : s_free σ (nI j) = (-5, vio σ (frK σ j i) (nI i)) := by
          have e1 : fsV (frK σ j) (f + 1) i = some i := by unfold fsV; rw [if_neg c44]
          rw [s_free, if_pos hib, hz1, ← hn, hf, e1]
        exact bs_iret dX6_free_54 rfl ⟨by rw [e], by rw [e]; rfl⟩
  refine bs_aload_n (pc' := 1) dX6_free_0 rfl rfl rfl ?_
  refine bs_iload_n (pc' := 2) dX6_free_1 rfl rfl ?_
  refine bs_callV (N := mX6_isPointer) (pc' := 5) dX6_free_2 km_X6_71 ko_X6_isPointer (sm_isPointer hI) mh_y rfl rfl rfl (by omega) (Nat.le_refl _) (Nat.le_refl _) rfl ?_
  rintro _ _ ⟨rfl, rfl⟩
  refine bs_if_ne (tgt := 15) (pc' := 8) dX6_free_5 rfl rfl (fun c5 => ?_) (fun c5 => ?_)
  · rw [bI_n0] at c5
    obtain ⟨j, hj, rfl⟩ := inb_t (by have := hI.nP.2; omega) c5
    refine bs_aload_n (pc' := 16) dX6_free_15 rfl rfl rfl ?_
    refine bs_getf (pc' := 19) kf_X6_32 dX6_free_16 mh_y rfl rfl ?_
    refine bs_iload_n (pc' := 20) dX6_free_19 rfl rfl ?_
    refine bm_ald (pc' := 21) dX6_free_20 hA rfl rfl j rfl (hI.p60 hj) rfl ?_
    refine bs_istore_n (pc' := 22) (lv' := [(0, _), (1, _), (2, _)]) dX6_free_21 rfl rfl rfl ?_
    refine bs_iconst (v := 0) (pc' := 23) dX6_free_22 (by decide) rfl ?_
    refine bs_istore_n (pc' := 24) (lv' := [(0, _), (1, _), (2, _), (3, _)]) dX6_free_23 rfl rfl rfl ?_
    exact loop j _ hj rfl _ 0 (Nat.zero_add _) rfl
  · refine bs_aload_n (pc' := 9) dX6_free_8 rfl rfl rfl ?_
    refine bs_bipush (v := (-2)) (pc' := 11) dX6_free_9 (by decide) rfl ?_
    refine bs_callV (N := mX6_error) (pc' := 14) dX6_free_11 km_X6_93 ko_X6_error (sm_error 0 (by decide) (by decide) hA) mh_y rfl rfl rfl (by omega) (Nat.le_refl _) (Nat.le_refl _) rfl ?_
    rintro _ _ ⟨rfl, rfl⟩
    have e : s_free σ p = (-2, err σ 0) := if_neg (by rw [bI_0] at c5; rw [c5]; decide)
    exact bs_iret dX6_free_14 rfl ⟨by rw [e], by rw [e]; rfl⟩
theorem sm_reborrowKind {p i : Nat} {kd : Int32} (hA : mOk y A) (hI : mInv σ) (h : isPc σ p i) : mSp G h0 y A σ hs mX6_reborrowKind 2 [.int (nI p), .int kd, .int (nI i)] (mQi G h0 y A σ hs (rbK σ p kd i)) := by
  refine bs_Sp.of (by decide) rfl ?_
  refine bs_iload_n (pc' := 1) dX6_reborrowKind_0 rfl rfl ?_
  refine bs_if_ne (tgt := 13) (pc' := 4) dX6_reborrowKind_1 rfl rfl (fun c1 => ?_) (fun c1 => ?_)
  · refine bs_iload_n (pc' := 14) dX6_reborrowKind_13 rfl rfl ?_
    refine bs_iconst (v := 1) (pc' := 15) dX6_reborrowKind_14 (by decide) rfl ?_
    refine bs_icmp_ne (tgt := 27) (pc' := 18) dX6_reborrowKind_15 rfl rfl (fun c15 => ?_) (fun c15 => ?_)
    · refine bs_aload_n (pc' := 28) dX6_reborrowKind_27 rfl rfl rfl ?_
      refine bs_iload_n (pc' := 29) dX6_reborrowKind_28 rfl rfl ?_
      refine bs_iload_n (pc' := 30) dX6_reborrowKind_29 rfl rfl ?_
      refine bs_callV (N := mX6_rawKind) (pc' := 33) dX6_reborrowKind_30 km_X6_124 ko_X6_rawKind (sm_rawKind hA hI h) mh_y rfl rfl rfl (by omega) (Nat.le_refl _) (Nat.le_refl _) rfl ?_
      rintro _ _ ⟨rfl, rfl⟩
      exact bs_iret dX6_reborrowKind_33 rfl ⟨by first | rw [rbK, if_pos c1] | rw [rbK, if_neg c1, if_pos c15] | rw [rbK, if_neg c1, if_neg c15], rfl⟩
    · refine bs_aload_n (pc' := 19) dX6_reborrowKind_18 rfl rfl rfl ?_
      refine bs_iload_n (pc' := 20) dX6_reborrowKind_19 rfl rfl ?_
      refine bs_iload_n (pc' := 21) dX6_reborrowKind_20 rfl rfl ?_
      refine bs_callV (N := mX6_readKind) (pc' := 24) dX6_reborrowKind_21 km_X6_111 ko_X6_readKind (sm_readKind hA hI h) mh_y rfl rfl rfl (by omega) (Nat.le_refl _) (Nat.le_refl _) rfl ?_
      rintro _ _ ⟨rfl, rfl⟩
      refine bs_goto (tgt := 33) dX6_reborrowKind_24 rfl ?_
      exact bs_iret dX6_reborrowKind_33 rfl ⟨by first | rw [rbK, if_pos c1] | rw [rbK, if_neg c1, if_pos c15] | rw [rbK, if_neg c1, if_neg c15], rfl⟩
  · refine bs_aload_n (pc' := 5) dX6_reborrowKind_4 rfl rfl rfl ?_
    refine bs_iload_n (pc' := 6) dX6_reborrowKind_5 rfl rfl ?_
    refine bs_iload_n (pc' := 7) dX6_reborrowKind_6 rfl rfl ?_
    refine bs_callV (N := mX6_writeKind) (pc' := 10) dX6_reborrowKind_7 km_X6_90 ko_X6_writeKind (sm_writeKind hA hI h) mh_y rfl rfl rfl (by omega) (Nat.le_refl _) (Nat.le_refl _) rfl ?_
    rintro _ _ ⟨rfl, rfl⟩
    refine bs_goto (tgt := 33) dX6_reborrowKind_10 rfl ?_
    exact bs_iret dX6_reborrowKind_33 rfl ⟨by first | rw [rbK, if_pos c1] | rw [rbK, if_neg c1, if_pos c15] | rw [rbK, if_neg c1, if_neg c15], rfl⟩
theorem sm_sizeBy {p i : Nat} {kd : Int32} (hA : mOk y A) (hI : mInv σ) (h : isPc σ p i) (hg : kd = 0 → ∃ k, gr σ (cO σ p i) (nI p) true = some k) : mSp G h0 y A σ hs mX6_sizeBy 1 [.int (nI p), .int kd, .int (nI i)] (mQi G h0 y A σ hs (nI (szB σ p kd i))) := by
  have hc : cO σ p i < 80 := (hI.cell h).2
  refine bs_Sp.of (by decide) rfl ?_
  refine bs_aload_n (pc' := 1) dX6_sizeBy_0 rfl rfl rfl ?_
  refine bs_iload_n (pc' := 2) dX6_sizeBy_1 rfl rfl ?_
  refine bs_iload_n (pc' := 3) dX6_sizeBy_2 rfl rfl ?_
  refine bs_callV (N := mX6_cellOf) (pc' := 6) dX6_sizeBy_3 km_X6_75 ko_X6_cellOf (sm_cellOf hA hI h) mh_y rfl rfl rfl (by omega) (Nat.le_refl _) (Nat.le_refl _) rfl ?_
  rintro _ _ ⟨rfl, rfl⟩
  refine bs_istore (pc' := 8) (lv' := [(0, _), (1, _), (2, _), (3, _), (4, _)]) dX6_sizeBy_6 rfl rfl rfl ?_
  refine bs_iconst (v := 1) (pc' := 9) dX6_sizeBy_8 (by decide) rfl ?_
  refine bs_iload_n (pc' := 10) dX6_sizeBy_9 rfl rfl ?_
  refine bs_if_ne (tgt := 30) (pc' := 13) dX6_sizeBy_10 rfl rfl (fun c10 => ?_) (fun c10 => ?_)
  · refine bs_aload_n (pc' := 31) dX6_sizeBy_30 rfl rfl rfl ?_
    refine bs_getf (pc' := 34) kf_X6_20 dX6_sizeBy_31 mh_y rfl rfl ?_
    refine bs_iload (pc' := 36) dX6_sizeBy_34 rfl rfl ?_
    refine bm_ald (pc' := 37) dX6_sizeBy_36 hA rfl rfl (cO σ p i) rfl hc rfl ?_
    refine bs_iadd (pc' := 38) dX6_sizeBy_37 rfl ?_
    exact bs_iret dX6_sizeBy_38 rfl ⟨by first | (rw [szB, if_pos c10, hg]; exact congrArg (fun z => some (Value.int z)) (nI_add 1 _)) | (rw [szB, if_neg c10, ← nI_add, ← (hI.sz hc).1]; rfl), rfl⟩
  · obtain ⟨k, hg⟩ := hg c10
    refine bs_aload_n (pc' := 14) dX6_sizeBy_13 rfl rfl rfl ?_
    refine bs_iload (pc' := 16) dX6_sizeBy_14 rfl rfl ?_
    refine bs_aload_n (pc' := 17) dX6_sizeBy_16 rfl rfl rfl ?_
    refine bs_iload (pc' := 19) dX6_sizeBy_17 rfl rfl ?_
    refine bs_iload_n (pc' := 20) dX6_sizeBy_19 rfl rfl ?_
    refine bs_iconst (v := 1) (pc' := 21) dX6_sizeBy_20 (by decide) rfl ?_
    refine bs_callV (N := mX6_granting) (pc' := 24) dX6_sizeBy_21 km_X6_79 ko_X6_granting (sm_granting (w := true) hA hI hc) mh_y rfl rfl rfl (by omega) (Nat.le_refl _) (Nat.le_refl _) rfl ?_
    rintro _ _ ⟨rfl, rfl⟩
    rw [hg]
    refine bs_callV (N := mX6_above) (pc' := 27) dX6_sizeBy_24 km_X6_87 ko_X6_above (sm_above hA hI hc (grf_lt hg)) mh_y rfl rfl rfl (by omega) (Nat.le_refl _) (Nat.le_refl _) rfl ?_
    rintro _ _ ⟨rfl, rfl⟩
    refine bs_goto (tgt := 37) dX6_sizeBy_27 rfl ?_
    refine bs_iadd (pc' := 38) dX6_sizeBy_37 rfl ?_
    exact bs_iret dX6_sizeBy_38 rfl ⟨by first | (rw [szB, if_pos c10, hg]; exact congrArg (fun z => some (Value.int z)) (nI_add 1 _)) | (rw [szB, if_neg c10, ← nI_add, ← (hI.sz hc).1]; rfl), rfl⟩
theorem pt_gr {p i : Nat} {kd : Int32} (h : rbK σ p kd i = 0) (hk : ¬ kd = 1) : ∃ k, gr σ (cO σ p i) (nI p) true = some k := by
  unfold rbK at h
  split at h
  · exact (wrK_0 h).2
  · first | exact (rwK_0 h).2 | (rw [if_neg hk] at h; exact (rwK_0 h).2)
theorem sm_put {p i : Nat} {kd g : Int32} (hA : mOk y A) (hI : mInv σ) (h : isPc σ p i) (hg : ¬ kd = 1 → ∃ k, gr σ (cO σ p i) (nI p) true = some k) (hs12 : szB σ p kd i ≤ 12) : mSp G h0 y A σ hs mX6_put 2 [.int (nI p), .int kd, .int (nI i), .int g] (mQv G h0 y A (pt σ p kd i g) hs) := by
  have hc : cO σ p i < 80 := (hI.cell h).2
  have hn := hI.sz hc
  have hn12 := hn.2
  refine bs_Sp.of (by decide) rfl ?_
  refine bs_aload_n (pc' := 1) dX6_put_0 rfl rfl rfl ?_
  refine bs_iload_n (pc' := 2) dX6_put_1 rfl rfl ?_
  refine bs_iload_n (pc' := 3) dX6_put_2 rfl rfl ?_
  refine bs_callV (N := mX6_cellOf) (pc' := 6) dX6_put_3 km_X6_75 ko_X6_cellOf (sm_cellOf hA hI h) mh_y rfl rfl rfl (by omega) (Nat.le_refl _) (Nat.le_refl _) rfl ?_
  rintro _ _ ⟨rfl, rfl⟩
  refine bs_istore (pc' := 8) (lv' := [(0, _), (1, _), (2, _), (3, _), (4, _), (5, _)]) dX6_put_6 rfl rfl rfl ?_
  refine bs_aload_n (pc' := 9) dX6_put_8 rfl rfl rfl ?_
  refine bs_getf (pc' := 12) kf_X6_64 dX6_put_9 mh_y rfl rfl ?_
  refine bs_istore (pc' := 14) (lv' := [(0, _), (1, _), (2, _), (3, _), (4, _), (5, _), (6, _)]) dX6_put_12 rfl rfl rfl ?_
  refine bs_iload_n (pc' := 15) dX6_put_14 rfl rfl ?_
  refine bs_if_ne (tgt := 45) (pc' := 18) dX6_put_15 rfl rfl (fun c15 => ?_) (fun c15 => ?_)
  · refine bs_iload_n (pc' := 46) dX6_put_45 rfl rfl ?_
    refine bs_iconst (v := 1) (pc' := 47) dX6_put_46 (by decide) rfl ?_
    refine bs_icmp_ne (tgt := 77) (pc' := 50) dX6_put_47 rfl rfl (fun c47 => ?_) (fun c47 => ?_)
    · obtain ⟨k, hg⟩ := hg c47
      have hab := abf_le (pm := fun k => σ 6 (12 * cO σ p i + k)) (grf_lt hg)
      have hlt : zN (σ 4 (cO σ p i)) < 12 := by rw [szB, if_neg c15] at hs12; omega
      refine bs_aload_n (pc' := 78) dX6_put_77 rfl rfl rfl ?_
      refine bs_iload (pc' := 80) dX6_put_78 rfl rfl ?_
      refine bs_aload_n (pc' := 81) dX6_put_80 rfl rfl rfl ?_
      refine bs_iload (pc' := 83) dX6_put_81 rfl rfl ?_
      refine bs_aload_n (pc' := 84) dX6_put_83 rfl rfl rfl ?_
      refine bs_iload (pc' := 86) dX6_put_84 rfl rfl ?_
      refine bs_iload_n (pc' := 87) dX6_put_86 rfl rfl ?_
      refine bs_iconst (v := 1) (pc' := 88) dX6_put_87 (by decide) rfl ?_
      refine bs_callV (N := mX6_granting) (pc' := 91) dX6_put_88 km_X6_79 ko_X6_granting (sm_granting (w := true) hA hI hc) mh_y rfl rfl rfl (by omega) (Nat.le_refl _) (Nat.le_refl _) rfl ?_
      rintro _ _ ⟨rfl, rfl⟩
      rw [hg]
      refine bs_callV (N := mX6_above) (pc' := 94) dX6_put_91 km_X6_87 ko_X6_above (sm_above hA hI hc (grf_lt hg)) mh_y rfl rfl rfl (by omega) (Nat.le_refl _) (Nat.le_refl _) rfl ?_
      rintro _ _ ⟨rfl, rfl⟩
      refine bs_iload (pc' := 96) dX6_put_94 rfl rfl ?_
      refine bs_iconst (v := 1) (pc' := 97) dX6_put_96 (by decide) rfl ?_
      refine bs_iload (pc' := 99) dX6_put_97 rfl rfl ?_
      refine bs_callV (N := mX6_insert) (pc' := 102) dX6_put_99 km_X6_103 ko_X6_insert (sm_insert hA hc hn.1 hlt hab.2) mh_y rfl rfl rfl (by omega) (Nat.le_refl _) (Nat.le_refl _) rfl ?_
      rintro _ _ ⟨rfl, rfl⟩
      exact bs_vret dX6_put_102 rfl ⟨rfl, by first | rw [pt, if_pos c15] | (rw [pt, if_neg c15, if_pos c47, e4]; done) | (rw [pt, if_neg c15, if_neg c47, hg]; rfl)⟩
    · have hI' := mInv_dRd (p := p) (i := i) hI
      have e4 : dRd σ p i 4 = σ 4 := by unfold dRd; exact dis_n (by decide)
      have hlt : zN (dRd σ p i 4 (cO σ p i)) < 12 := by rw [e4]; rw [szB, if_neg c15] at hs12; omega
      refine bs_aload_n (pc' := 51) dX6_put_50 rfl rfl rfl ?_
      refine bs_iload_n (pc' := 52) dX6_put_51 rfl rfl ?_
      refine bs_iload_n (pc' := 53) dX6_put_52 rfl rfl ?_
      refine bs_callV (N := mX6_doRead) (pc' := 56) dX6_put_53 km_X6_117 ko_X6_doRead (sm_doRead hA hI h) mh_y rfl rfl rfl (by omega) (Nat.le_refl _) (Nat.le_refl _) rfl ?_
      rintro _ _ ⟨rfl, rfl⟩
      refine bs_aload_n (pc' := 57) dX6_put_56 rfl rfl rfl ?_
      refine bs_iload (pc' := 59) dX6_put_57 rfl rfl ?_
      refine bs_aload_n (pc' := 60) dX6_put_59 rfl rfl rfl ?_
      refine bs_getf (pc' := 63) kf_X6_20 dX6_put_60 mh_y rfl rfl ?_
      refine bs_iload (pc' := 65) dX6_put_63 rfl rfl ?_
      refine bm_ald (pc' := 66) dX6_put_65 hA rfl rfl (cO σ p i) rfl hc rfl ?_
      refine bs_topi _ (hI'.sz hc).1 ?_
      refine bs_iload (pc' := 68) dX6_put_66 rfl rfl ?_
      refine bs_iconst (v := 2) (pc' := 69) dX6_put_68 (by decide) rfl ?_
      refine bs_iload (pc' := 71) dX6_put_69 rfl rfl ?_
      refine bs_callV (N := mX6_insert) (pc' := 74) dX6_put_71 km_X6_103 ko_X6_insert (sm_insert hA hc (hI'.sz hc).1 hlt (Nat.le_refl _)) mh_y rfl rfl rfl (by omega) (Nat.le_refl _) (Nat.le_refl _) rfl ?_
      rintro _ _ ⟨rfl, rfl⟩
      refine bs_goto (tgt := 102) dX6_put_74 rfl ?_
      exact bs_vret dX6_put_102 rfl ⟨rfl, by first | rw [pt, if_pos c15] | (rw [pt, if_neg c15, if_pos c47, e4]; done) | (rw [pt, if_neg c15, if_neg c47, hg]; rfl)⟩
  · obtain ⟨k, hg⟩ := hg (by rw [c15]; decide)
    have hI' := mInv_dWr hI h
    have hab := abf_le (pm := fun k => σ 6 (12 * cO σ p i + k)) (grf_lt hg)
    have e4 : dWr σ p i 4 (cO σ p i) = nI (ab σ (cO σ p i) k) := by unfold dWr; rw [hg]; show ms_u σ 4 _ _ 4 _ = _; rw [ms_u_k]; exact if_pos rfl
    have hz : zN (dWr σ p i 4 (cO σ p i)) = ab σ (cO σ p i) k := by rw [e4]; exact zN_nI (by have : ab σ (cO σ p i) k ≤ _ := hab.2; omega)
    have hlt : zN (dWr σ p i 4 (cO σ p i)) < 12 := by rw [hz]; rw [szB, if_pos c15, hg] at hs12; exact Nat.lt_of_succ_le (by rw [Nat.add_comm] at hs12; exact hs12)
    refine bs_aload_n (pc' := 19) dX6_put_18 rfl rfl rfl ?_
    refine bs_iload_n (pc' := 20) dX6_put_19 rfl rfl ?_
    refine bs_iload_n (pc' := 21) dX6_put_20 rfl rfl ?_
    refine bs_callV (N := mX6_doWrite) (pc' := 24) dX6_put_21 km_X6_121 ko_X6_doWrite (sm_doWrite hA hI h hg) mh_y rfl rfl rfl (by omega) (Nat.le_refl _) (Nat.le_refl _) rfl ?_
    rintro _ _ ⟨rfl, rfl⟩
    refine bs_aload_n (pc' := 25) dX6_put_24 rfl rfl rfl ?_
    refine bs_iload (pc' := 27) dX6_put_25 rfl rfl ?_
    refine bs_aload_n (pc' := 28) dX6_put_27 rfl rfl rfl ?_
    refine bs_getf (pc' := 31) kf_X6_20 dX6_put_28 mh_y rfl rfl ?_
    refine bs_iload (pc' := 33) dX6_put_31 rfl rfl ?_
    refine bm_ald (pc' := 34) dX6_put_33 hA rfl rfl (cO σ p i) rfl hc rfl ?_
    refine bs_topi _ (hI'.sz hc).1 ?_
    refine bs_iload (pc' := 36) dX6_put_34 rfl rfl ?_
    refine bs_iconst (v := 0) (pc' := 37) dX6_put_36 (by decide) rfl ?_
    refine bs_iload (pc' := 39) dX6_put_37 rfl rfl ?_
    refine bs_callV (N := mX6_insert) (pc' := 42) dX6_put_39 km_X6_103 ko_X6_insert (sm_insert hA hc (hI'.sz hc).1 hlt (Nat.le_refl _)) mh_y rfl rfl rfl (by omega) (Nat.le_refl _) (Nat.le_refl _) rfl ?_
    rintro _ _ ⟨rfl, rfl⟩
    refine bs_goto (tgt := 102) dX6_put_42 rfl ?_
    exact bs_vret dX6_put_102 rfl ⟨rfl, by first | rw [pt, if_pos c15] | (rw [pt, if_neg c15, if_pos c47, e4]; done) | (rw [pt, if_neg c15, if_neg c47, hg]; rfl)⟩
theorem sm_allocate {m : Int32} (hA : mOk y A) (hI : mInv σ) : mSp G h0 y A σ hs mX6_allocate 1 [.int m] (mQ2 G h0 y A hs (s_alloc σ m)) := by
  have hnA := hI.nA
  have hnP := hI.nP
  refine bs_Sp.of (by decide) rfl ?_
  have loop : ∀ (τ : MS) a n (p : Int32), a < 10 → n ≤ 8 → (∀ c, 8 * a ≤ c → c < 80 → τ 4 c = 0) → ∀ f i, i + f = n → (∀ c, 8 * a + i ≤ c → c < 80 → inl τ a p i 4 c = 0) → mB G h0 y A (inl τ a p i) hs mX6_allocate 1 74 [(0, .ref y), (1, .int (nI n)), (2, .int (nI a)), (3, .int p), (4, .int (nI i))] [] (mQi G h0 y A (inl τ a p n) hs p) := by
    intro τ a n p ha hn h0s f
    induction f with
    | zero =>
      intro i hi hz
      have hi' : i = n := by omega
      subst hi'
      refine bs_iload (pc' := 76) dX6_allocate_74 rfl rfl ?_
      refine bs_iload_n (pc' := 77) dX6_allocate_76 rfl rfl ?_
      refine bs_icmp_ge (tgt := 101) (pc' := 80) dX6_allocate_77 rfl rfl (fun _ => ?_) (fun c77 => absurd (nI_le (Nat.le_refl _) (by omega)) c77)
      refine bs_iload_n (pc' := 102) dX6_allocate_101 rfl rfl ?_
      exact bs_iret dX6_allocate_102 rfl ⟨rfl, rfl⟩
    | succ f ih =>
      intro i hi hz
      have hc : 8 * a + i < 80 := by omega
      have h4 : inl τ a p i 4 (8 * a + i) = 0 := hz _ (Nat.le_refl _) hc
      refine bs_iload (pc' := 76) dX6_allocate_74 rfl rfl ?_
      refine bs_iload_n (pc' := 77) dX6_allocate_76 rfl rfl ?_
      refine bs_icmp_ge (tgt := 101) (pc' := 80) dX6_allocate_77 rfl rfl (fun c77 => absurd c77 (nI_ge (by omega) (by omega))) (fun _ => ?_)
      refine bs_aload_n (pc' := 81) dX6_allocate_80 rfl rfl rfl ?_
      refine bs_bipush (v := 8) (pc' := 83) dX6_allocate_81 (by decide) rfl ?_
      refine bs_iload_n (pc' := 84) dX6_allocate_83 rfl rfl ?_
      refine bs_imul (pc' := 85) dX6_allocate_84 rfl ?_
      refine bs_iload (pc' := 87) dX6_allocate_85 rfl rfl ?_
      refine bs_iadd (pc' := 88) dX6_allocate_87 rfl ?_
      refine bs_topi _ (nI_8 a i) ?_
      refine bs_iconst (v := 0) (pc' := 89) dX6_allocate_88 (by decide) rfl ?_
      refine bs_iload_n (pc' := 90) dX6_allocate_89 rfl rfl ?_
      refine bs_iconst (v := 0) (pc' := 91) dX6_allocate_90 (by decide) rfl ?_
      refine bs_iconst (v := 0) (pc' := 92) dX6_allocate_91 (by decide) rfl ?_
      refine bs_callV (N := mX6_insert) (pc' := 95) dX6_allocate_92 km_X6_103 ko_X6_insert (sm_insert (pl := 0) hA hc (by rw [h4]; rfl) (by rw [h4]; decide) (Nat.zero_le _)) mh_y rfl rfl rfl (by omega) (Nat.le_refl _) (Nat.le_refl _) rfl ?_
      rintro _ _ ⟨rfl, rfl⟩
      refine bs_iinc (pc' := 98) (lv' := [(0, _), (1, _), (2, _), (3, _), (4, _)]) dX6_allocate_95 rfl (nI_i1 i) rfl rfl rfl ?_
      refine bs_goto (tgt := 74) dX6_allocate_98 rfl ?_
      have e := ih (i + 1) (by omega) (fun c h1 h2 => by show ins (inl τ a p i) (8 * a + i) 0 p 0 0 4 c = 0; rw [ins_4]; show (if c = 8 * a + i then _ else _) = _; rw [if_neg (by omega)]; exact hz c (by omega) h2)
      exact e
  refine bs_iload_n (pc' := 1) dX6_allocate_0 rfl rfl ?_
  refine bs_iconst (v := 1) (pc' := 2) dX6_allocate_1 (by decide) rfl ?_
  refine bs_bipush (v := 8) (pc' := 4) dX6_allocate_2 (by decide) rfl ?_
  refine bs_callS (N := mX6_in) (pc' := 7) dX6_allocate_4 km_X6_67 ko_X6_in sm_in rfl rfl rfl (by omega) (Nat.le_refl _) (Nat.le_refl _) rfl ?_
  rintro _ _ ⟨rfl, rfl⟩
  refine bs_if_ne (tgt := 17) (pc' := 10) dX6_allocate_7 rfl rfl (fun c7 => ?_) (fun c7 => ?_)
  · rw [bI_n0, decide_eq_true_eq] at c7
    refine bs_aload_n (pc' := 18) dX6_allocate_17 rfl rfl rfl ?_
    refine bs_getf (pc' := 21) kf_X6_97 dX6_allocate_18 mh_y rfl rfl ?_
    refine bs_bipush (v := 10) (pc' := 23) dX6_allocate_21 (by decide) rfl ?_
    refine bs_icmp_eq (tgt := 35) (pc' := 26) dX6_allocate_23 rfl rfl (fun c23 => ?_) (fun c23 => ?_)
    · refine bs_aload_n (pc' := 36) dX6_allocate_35 rfl rfl rfl ?_
      refine bs_bipush (v := (-4)) (pc' := 38) dX6_allocate_36 (by decide) rfl ?_
      refine bs_callV (N := mX6_error) (pc' := 41) dX6_allocate_38 km_X6_93 ko_X6_error (sm_error 2 (by decide) (by decide) hA) mh_y rfl rfl rfl (by omega) (Nat.le_refl _) (Nat.le_refl _) rfl ?_
      rintro _ _ ⟨rfl, rfl⟩
      have e : s_alloc σ m = (-4, err σ 2) := by rw [s_alloc, if_pos c7, if_pos (by first | exact Or.inl c23 | exact Or.inr c32)]
      exact bs_iret dX6_allocate_41 rfl ⟨by rw [e], by rw [e]; rfl⟩
    · refine bs_aload_n (pc' := 27) dX6_allocate_26 rfl rfl rfl ?_
      refine bs_getf (pc' := 30) kf_X6_64 dX6_allocate_27 mh_y rfl rfl ?_
      refine bs_bipush (v := 60) (pc' := 32) dX6_allocate_30 (by decide) rfl ?_
      refine bs_icmp_ne (tgt := 42) (pc' := 35) dX6_allocate_32 rfl rfl (fun c32 => ?_) (fun c32 => ?_)
      · have e : s_alloc σ m = (σ 8 0, alc σ m) := by rw [s_alloc, if_pos c7, if_neg (fun q => q.elim c23 c32)]
        have ha : zN (σ 0 0) < 10 := by
          rcases Nat.lt_or_ge (zN (σ 0 0)) 10 with q | q
          · exact q
          · exact absurd (by rw [hnA.1, show zN (σ 0 0) = 10 by have := hnA.2; omega]; rfl) c23
        have hp : zN (σ 8 0) < 60 := by
          rcases Nat.lt_or_ge (zN (σ 8 0)) 60 with q | q
          · exact q
          · exact absurd (by rw [hnP.1, show zN (σ 8 0) = 60 by have := hnP.2; omega]; rfl) c32
        obtain ⟨n, hn, rfl⟩ : ∃ n, n ≤ 8 ∧ m = nI n := by
          obtain ⟨n, h1, h2⟩ := nI_of2 (x := m) (M := 8) (n := 8) rfl (by rw [Int32.not_lt]; exact Int32.le_trans (by decide) c7.1) c7.2
          exact ⟨n, h1, h2⟩
        have hzn : zN (nI n) = n := zN_nI (by omega)
        refine bs_aload_n (pc' := 43) dX6_allocate_42 rfl rfl rfl ?_
        refine bs_getf (pc' := 46) kf_X6_97 dX6_allocate_43 mh_y rfl rfl ?_
        refine bs_istore_n (pc' := 47) (lv' := [(0, _), (1, _), (2, _)]) dX6_allocate_46 rfl rfl rfl ?_
        refine bs_aload_n (pc' := 48) dX6_allocate_47 rfl rfl rfl ?_
        refine bs_dup (pc' := 49) dX6_allocate_48 rfl rfl ?_
        refine bs_getf (pc' := 52) kf_X6_97 dX6_allocate_49 mh_y rfl rfl ?_
        refine bs_iconst (v := 1) (pc' := 53) dX6_allocate_52 (by decide) rfl ?_
        refine bs_iadd (pc' := 54) dX6_allocate_53 rfl ?_
        refine bm_put (pc' := 57) kf_X6_97 dX6_allocate_54 rfl rfl rfl rfl ?_
        refine bs_aload_n (pc' := 58) dX6_allocate_57 rfl rfl rfl ?_
        refine bs_getf (pc' := 61) kf_X6_7 dX6_allocate_58 mh_y rfl rfl ?_
        refine bs_iload_n (pc' := 62) dX6_allocate_61 rfl rfl ?_
        refine bs_iload_n (pc' := 63) dX6_allocate_62 rfl rfl ?_
        refine bm_ast (pc' := 64) dX6_allocate_63 hA rfl rfl (zN (σ 0 0)) hnA.1 ha rfl ?_
        refine bs_aload_n (pc' := 65) dX6_allocate_64 rfl rfl rfl ?_
        refine bs_iload_n (pc' := 66) dX6_allocate_65 rfl rfl ?_
        refine bs_iconst (v := (-1)) (pc' := 67) dX6_allocate_66 (by decide) rfl ?_
        refine bs_callV (N := mX6_newPointer) (pc' := 70) dX6_allocate_67 km_X6_100 ko_X6_newPointer (sm_newPointer hA hnP.1 hp) mh_y rfl rfl rfl (by omega) (Nat.le_refl _) (Nat.le_refl _) rfl ?_
        rintro _ _ ⟨rfl, rfl⟩
        refine bs_istore_n (pc' := 71) (lv' := [(0, _), (1, _), (2, _), (3, _)]) dX6_allocate_70 rfl rfl rfl ?_
        refine bs_iconst (v := 0) (pc' := 72) dX6_allocate_71 (by decide) rfl ?_
        refine bs_istore (pc' := 74) (lv' := [(0, _), (1, _), (2, _), (3, _), (4, _)]) dX6_allocate_72 rfl rfl rfl ?_
        have h4 : ∀ c, 8 * zN (σ 0 0) ≤ c → c < 80 → nwP (ms_u (ms_u σ 0 0 (σ 0 0 + 1)) 1 (zN (σ 0 0)) (nI n)) (σ 0 0) (-1) 4 c = 0 := fun c h1 h2 => hI.s0 h1 h2
        have l := loop (nwP (ms_u (ms_u σ 0 0 (σ 0 0 + 1)) 1 (zN (σ 0 0)) (nI n)) (σ 0 0) (-1)) (zN (σ 0 0)) n (σ 8 0) ha hn h4 n 0 (Nat.zero_add _) (fun c h1 h2 => h4 c (by omega) h2)
        rw [e]
        unfold alc
        rw [hzn]
        rw [← hnA.1] at l
        exact l
      · refine bs_aload_n (pc' := 36) dX6_allocate_35 rfl rfl rfl ?_
        refine bs_bipush (v := (-4)) (pc' := 38) dX6_allocate_36 (by decide) rfl ?_
        refine bs_callV (N := mX6_error) (pc' := 41) dX6_allocate_38 km_X6_93 ko_X6_error (sm_error 2 (by decide) (by decide) hA) mh_y rfl rfl rfl (by omega) (Nat.le_refl _) (Nat.le_refl _) rfl ?_
        rintro _ _ ⟨rfl, rfl⟩
        have e : s_alloc σ m = (-4, err σ 2) := by rw [s_alloc, if_pos c7, if_pos (by first | exact Or.inl c23 | exact Or.inr c32)]
        exact bs_iret dX6_allocate_41 rfl ⟨by rw [e], by rw [e]; rfl⟩
  · refine bs_aload_n (pc' := 11) dX6_allocate_10 rfl rfl rfl ?_
    refine bs_bipush (v := (-2)) (pc' := 13) dX6_allocate_11 (by decide) rfl ?_
    refine bs_callV (N := mX6_error) (pc' := 16) dX6_allocate_13 km_X6_93 ko_X6_error (sm_error 0 (by decide) (by decide) hA) mh_y rfl rfl rfl (by omega) (Nat.le_refl _) (Nat.le_refl _) rfl ?_
    rintro _ _ ⟨rfl, rfl⟩
    have e : s_alloc σ m = (-2, err σ 0) := if_neg (by rw [bI_0, decide_eq_false_iff_not] at c7; exact c7)
    exact bs_iret dX6_allocate_16 rfl ⟨by rw [e], by rw [e]; rfl⟩
end Model3
