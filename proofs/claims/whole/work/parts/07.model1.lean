section Model1
variable {G : GG} {h0 : Hp} {y : Nat} {A : Nat → Nat} {σ : MS} {hs : Int64} {d : Nat}
theorem sm_in {h : Hp} {v lo hi : Int32} : bs_Sp G mX6_in d 0 0 [.int v, .int lo, .int hi] h (fun r h' => r = some (.int (bI (decide (lo ≤ v ∧ v ≤ hi)))) ∧ h' = h) := by
  refine bs_Sp.of (by decide) rfl ?_
  refine bs_iload_n (pc' := 1) dX6_in_0 rfl rfl ?_
  refine bs_iload_n (pc' := 2) dX6_in_1 rfl rfl ?_
  refine bs_icmp_lt (tgt := 14) (pc' := 5) dX6_in_2 rfl rfl (fun c2 => ?_) (fun c2 => ?_)
  · refine bs_iconst (v := 0) (pc' := 15) dX6_in_14 (by decide) rfl ?_
    exact bs_zret dX6_in_15 rfl (by decide) ⟨by congr 2; first | (rw [bI, if_pos]; simp only [decide_eq_true_eq]; (simp only [Int32.lt_iff_toInt_lt, Int32.le_iff_toInt_le, ← Int32.toInt_inj, Int32.reduceToInt] at *; omega)) | (rw [bI, if_neg]; simp only [decide_eq_true_eq]; (simp only [Int32.lt_iff_toInt_lt, Int32.le_iff_toInt_le, ← Int32.toInt_inj, Int32.reduceToInt] at *; omega)), rfl⟩
  · refine bs_iload_n (pc' := 6) dX6_in_5 rfl rfl ?_
    refine bs_iload_n (pc' := 7) dX6_in_6 rfl rfl ?_
    refine bs_icmp_gt (tgt := 14) (pc' := 10) dX6_in_7 rfl rfl (fun c7 => ?_) (fun c7 => ?_)
    · refine bs_iconst (v := 0) (pc' := 15) dX6_in_14 (by decide) rfl ?_
      exact bs_zret dX6_in_15 rfl (by decide) ⟨by congr 2; first | (rw [bI, if_pos]; simp only [decide_eq_true_eq]; (simp only [Int32.lt_iff_toInt_lt, Int32.le_iff_toInt_le, ← Int32.toInt_inj, Int32.reduceToInt] at *; omega)) | (rw [bI, if_neg]; simp only [decide_eq_true_eq]; (simp only [Int32.lt_iff_toInt_lt, Int32.le_iff_toInt_le, ← Int32.toInt_inj, Int32.reduceToInt] at *; omega)), rfl⟩
    · refine bs_iconst (v := 1) (pc' := 11) dX6_in_10 (by decide) rfl ?_
      refine bs_goto (tgt := 15) dX6_in_11 rfl ?_
      exact bs_zret dX6_in_15 rfl (by decide) ⟨by congr 2; first | (rw [bI, if_pos]; simp only [decide_eq_true_eq]; (simp only [Int32.lt_iff_toInt_lt, Int32.le_iff_toInt_le, ← Int32.toInt_inj, Int32.reduceToInt] at *; omega)) | (rw [bI, if_neg]; simp only [decide_eq_true_eq]; (simp only [Int32.lt_iff_toInt_lt, Int32.le_iff_toInt_le, ← Int32.toInt_inj, Int32.reduceToInt] at *; omega)), rfl⟩
theorem sm_granting {c n : Nat} {t : Int32} {w : Bool} (hA : mOk y A) (hc : c < 80) (hsz : σ 4 c = nI n) (hn : n ≤ 12) : bs_Sp G mX6_granting d 0 0 [.ref y, .int (nI c), .int t, .int (bI w)] (mh G h0 y A σ hs) (fun v h' => v = some (.int (oI (grf (fun k => σ 5 (12 * c + k)) (fun k => σ 6 (12 * c + k)) t w n))) ∧ h' = mh G h0 y A σ hs) := by
  refine bs_Sp.of (by decide) rfl ?_
  have loop : ∀ m, m ≤ n → ∀ x, x = nI m - 1 → bs_B G (fun _ => True) mX6_granting d 0 0 (mh G h0 y A σ hs) 10 [(0, .ref y), (1, .int (nI c)), (2, .int t), (3, .int (bI w)), (4, .int x)] [] (fun v h' => v = some (.int (oI (grf (fun k => σ 5 (12 * c + k)) (fun k => σ 6 (12 * c + k)) t w m))) ∧ h' = mh G h0 y A σ hs) := by
    intro m
    induction m with
    | zero =>
      intro _ x hx
      subst hx
      refine bs_iload (pc' := 12) dX6_granting_10 rfl rfl ?_
      refine bs_if_lt (tgt := 90) (pc' := 15) dX6_granting_12 rfl rfl (fun _ => ?_) (fun c12 => absurd (by decide) c12)
      refine bs_iconst (v := (-1)) (pc' := 91) dX6_granting_90 (by decide) rfl ?_
      exact bs_iret dX6_granting_91 rfl ⟨rfl, rfl⟩
    | succ m ih =>
      intro hm x hx
      rw [nI_pred] at hx
      subst hx
      have j58 : ∀ z, z = bI (okp w (σ 6 (12 * c + m))) → bs_B G (fun _ => True) mX6_granting d 0 0 (mh G h0 y A σ hs) 58 [(0, .ref y), (1, .int (nI c)), (2, .int t), (3, .int (bI w)), (4, .int (nI m)), (5, .int (σ 6 (12 * c + m)))] [.int z] (fun v h' => v = some (.int (oI (grf (fun k => σ 5 (12 * c + k)) (fun k => σ 6 (12 * c + k)) t w (m + 1)))) ∧ h' = mh G h0 y A σ hs) := by
        intro z hz
        subst hz
        refine bs_istore (pc' := 60) (lv' := [(0, _), (1, _), (2, _), (3, _), (4, _), (5, _), (6, _)]) dX6_granting_58 rfl rfl rfl ?_
        refine bs_aload_n (pc' := 61) dX6_granting_60 rfl rfl rfl ?_
        refine bs_getf (pc' := 64) kf_X6_23 dX6_granting_61 mh_y rfl rfl ?_
        refine bs_bipush (v := 12) (pc' := 66) dX6_granting_64 (by decide) rfl ?_
        refine bs_iload_n (pc' := 67) dX6_granting_66 rfl rfl ?_
        refine bs_imul (pc' := 68) dX6_granting_67 rfl ?_
        refine bs_iload (pc' := 70) dX6_granting_68 rfl rfl ?_
        refine bs_iadd (pc' := 71) dX6_granting_70 rfl ?_
        refine bm_ald (pc' := 72) dX6_granting_71 hA rfl rfl (12 * c + m) (nI_12 c m) (by show _ < 960; omega) rfl ?_
        refine bs_iload_n (pc' := 73) dX6_granting_72 rfl rfl ?_
        refine bs_icmp_ne (tgt := 84) (pc' := 76) dX6_granting_73 rfl rfl (fun c73 => ?_) (fun c73 => ?_)
        · have e : grf (fun k => σ 5 (12 * c + k)) (fun k => σ 6 (12 * c + k)) t w (m + 1) = grf (fun k => σ 5 (12 * c + k)) (fun k => σ 6 (12 * c + k)) t w m := by first | (rw [bI_0] at c78; simp [grf, c78]) | simp [grf, c73]
          rw [e]
          refine bs_iinc (pc' := 87) (lv' := [(0, _), (1, _), (2, _), (3, _), (4, _), (5, _), (6, _)]) dX6_granting_84 rfl rfl rfl rfl rfl ?_
          refine bs_goto (tgt := 10) dX6_granting_87 rfl ?_
          refine bs_sub (lv' := [(0, _), (1, _), (2, _), (3, _), (4, _)]) [0, 1, 2, 3, 4] rfl ?_
          exact ih (by omega) _ (nI_m1 m)
        · refine bs_iload (pc' := 78) dX6_granting_76 rfl rfl ?_
          refine bs_if_eq (tgt := 84) (pc' := 81) dX6_granting_78 rfl rfl (fun c78 => ?_) (fun c78 => ?_)
          · have e : grf (fun k => σ 5 (12 * c + k)) (fun k => σ 6 (12 * c + k)) t w (m + 1) = grf (fun k => σ 5 (12 * c + k)) (fun k => σ 6 (12 * c + k)) t w m := by first | (rw [bI_0] at c78; simp [grf, c78]) | simp [grf, c73]
            rw [e]
            refine bs_iinc (pc' := 87) (lv' := [(0, _), (1, _), (2, _), (3, _), (4, _), (5, _), (6, _)]) dX6_granting_84 rfl rfl rfl rfl rfl ?_
            refine bs_goto (tgt := 10) dX6_granting_87 rfl ?_
            refine bs_sub (lv' := [(0, _), (1, _), (2, _), (3, _), (4, _)]) [0, 1, 2, 3, 4] rfl ?_
            exact ih (by omega) _ (nI_m1 m)
          · refine bs_iload (pc' := 83) dX6_granting_81 rfl rfl ?_
            exact bs_iret dX6_granting_83 rfl ⟨by rw [bI_n0] at c78; simp [grf, oI, c73, c78], rfl⟩
      refine bs_iload (pc' := 12) dX6_granting_10 rfl rfl ?_
      refine bs_if_lt (tgt := 90) (pc' := 15) dX6_granting_12 rfl rfl (fun c12 => absurd c12 (nI_pos (by omega))) (fun _ => ?_)
      refine bs_aload_n (pc' := 16) dX6_granting_15 rfl rfl rfl ?_
      refine bs_getf (pc' := 19) kf_X6_26 dX6_granting_16 mh_y rfl rfl ?_
      refine bs_bipush (v := 12) (pc' := 21) dX6_granting_19 (by decide) rfl ?_
      refine bs_iload_n (pc' := 22) dX6_granting_21 rfl rfl ?_
      refine bs_imul (pc' := 23) dX6_granting_22 rfl ?_
      refine bs_iload (pc' := 25) dX6_granting_23 rfl rfl ?_
      refine bs_iadd (pc' := 26) dX6_granting_25 rfl ?_
      refine bm_ald (pc' := 27) dX6_granting_26 hA rfl rfl (12 * c + m) (nI_12 c m) (by show _ < 960; omega) rfl ?_
      refine bs_istore (pc' := 29) (lv' := [(0, _), (1, _), (2, _), (3, _), (4, _), (5, _)]) dX6_granting_27 rfl rfl rfl ?_
      refine bs_iload_n (pc' := 30) dX6_granting_29 rfl rfl ?_
      refine bs_if_eq (tgt := 47) (pc' := 33) dX6_granting_30 rfl rfl (fun c30 => ?_) (fun c30 => ?_)
      · refine bs_iload (pc' := 49) dX6_granting_47 rfl rfl ?_
        refine bs_iconst (v := 3) (pc' := 50) dX6_granting_49 (by decide) rfl ?_
        refine bs_icmp_eq (tgt := 57) (pc' := 53) dX6_granting_50 rfl rfl (fun c50 => ?_) (fun c50 => ?_)
        · refine bs_iconst (v := 0) (pc' := 58) dX6_granting_57 (by decide) rfl ?_
          exact j58 _ (by cases w <;> first | (exfalso; revert c30; decide) | simp [okp, bI, c36] | simp [okp, bI, c50] | (simp only [okp, bI]; simp; (simp only [Int32.lt_iff_toInt_lt, Int32.le_iff_toInt_le, ← Int32.toInt_inj, Int32.reduceToInt] at *; omega)))
        · refine bs_iconst (v := 1) (pc' := 54) dX6_granting_53 (by decide) rfl ?_
          refine bs_goto (tgt := 58) dX6_granting_54 rfl ?_
          exact j58 _ (by cases w <;> first | (exfalso; revert c30; decide) | simp [okp, bI, c36] | simp [okp, bI, c50] | (simp only [okp, bI]; simp; (simp only [Int32.lt_iff_toInt_lt, Int32.le_iff_toInt_le, ← Int32.toInt_inj, Int32.reduceToInt] at *; omega)))
      · refine bs_iload (pc' := 35) dX6_granting_33 rfl rfl ?_
        refine bs_iconst (v := 2) (pc' := 36) dX6_granting_35 (by decide) rfl ?_
        refine bs_icmp_ge (tgt := 43) (pc' := 39) dX6_granting_36 rfl rfl (fun c36 => ?_) (fun c36 => ?_)
        · refine bs_iconst (v := 0) (pc' := 44) dX6_granting_43 (by decide) rfl ?_
          refine bs_goto (tgt := 58) dX6_granting_44 rfl ?_
          exact j58 _ (by cases w <;> first | (exfalso; revert c30; decide) | simp [okp, bI, c36] | simp [okp, bI, c50] | (simp only [okp, bI]; simp; (simp only [Int32.lt_iff_toInt_lt, Int32.le_iff_toInt_le, ← Int32.toInt_inj, Int32.reduceToInt] at *; omega)))
        · refine bs_iconst (v := 1) (pc' := 40) dX6_granting_39 (by decide) rfl ?_
          refine bs_goto (tgt := 58) dX6_granting_40 rfl ?_
          exact j58 _ (by cases w <;> first | (exfalso; revert c30; decide) | simp [okp, bI, c36] | simp [okp, bI, c50] | (simp only [okp, bI]; simp; (simp only [Int32.lt_iff_toInt_lt, Int32.le_iff_toInt_le, ← Int32.toInt_inj, Int32.reduceToInt] at *; omega)))
  refine bs_aload_n (pc' := 1) dX6_granting_0 rfl rfl rfl ?_
  refine bs_getf (pc' := 4) kf_X6_20 dX6_granting_1 mh_y rfl rfl ?_
  refine bs_iload_n (pc' := 5) dX6_granting_4 rfl rfl ?_
  refine bm_ald (pc' := 6) dX6_granting_5 hA rfl rfl c rfl hc rfl ?_
  refine bs_iconst (v := 1) (pc' := 7) dX6_granting_6 (by decide) rfl ?_
  refine bs_isub (pc' := 8) dX6_granting_7 rfl ?_
  refine bs_istore (pc' := 10) (lv' := [(0, _), (1, _), (2, _), (3, _), (4, _)]) dX6_granting_8 rfl rfl rfl ?_
  exact loop n (Nat.le_refl n) _ (by rw [hsz])
end Model1
