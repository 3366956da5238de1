section Model1
variable {G : GG} {h0 : Hp} {y : Nat} {A : Nat → Nat} {σ : MS} {hs : Int64}
abbrev mQi (G : GG) (h0 : Hp) (y : Nat) (A : Nat → Nat) (σ : MS) (hs : Int64) (r : Int32) : Option Value → Hp → Prop := fun v h' => v = some (.int r) ∧ h' = mh G h0 y A σ hs
abbrev mQv (G : GG) (h0 : Hp) (y : Nat) (A : Nat → Nat) (σ : MS) (hs : Int64) : Option Value → Hp → Prop := fun v h' => v = none ∧ h' = mh G h0 y A σ hs
abbrev mB (G : GG) (h0 : Hp) (y : Nat) (A : Nat → Nat) (σ : MS) (hs : Int64) (M : MI) (d pc : Nat) (lv : List (Nat × Value)) (st : List Value) (Q : Option Value → Hp → Prop) : Prop := bs_B G (fun _ => True) M d 0 0 (mh G h0 y A σ hs) pc lv st Q
abbrev mSp (G : GG) (h0 : Hp) (y : Nat) (A : Nat → Nat) (σ : MS) (hs : Int64) (M : MI) (d : Nat) (vs : List Value) (Q : Option Value → Hp → Prop) : Prop := bs_Sp G M d 0 0 (.ref y :: vs) (mh G h0 y A σ hs) Q
theorem sm_in {h : Hp} {v lo hi : Int32} : bs_Sp G mX6_in 0 0 0 [.int v, .int lo, .int hi] h (fun r h' => r = some (.int (bI (decide (lo ≤ v ∧ v ≤ hi)))) ∧ h' = h) := by
  refine bs_Sp.of (by decide) rfl ?_
  refine bs_iload_n (pc' := 1) dX6_in_0 rfl rfl ?_
  refine bs_iload_n (pc' := 2) dX6_in_1 rfl rfl ?_
  refine bs_icmp_lt (tgt := 14) (pc' := 5) dX6_in_2 rfl rfl (fun c2 => ?_) (fun c2 => ?_)
  · refine bs_iconst (v := 0) (pc' := 15) dX6_in_14 (by decide) rfl ?_
    exact bs_zret dX6_in_15 rfl (by decide) ⟨by congr 2; first | (rw [bI, if_pos]; simp only [decide_eq_true_eq]; (simp only [Int32.lt_iff_toInt_lt, Int32.le_iff_toInt_le, ← Int32.toInt_inj, Int32.reduceToInt] at *; omega)) | (rw [bI, if_neg]; simp only [decide_eq_true_eq]; (simp only [Int32.lt_iff_toInt_lt, Int32.le_iff_toInt_le, ← Int32.toInt_inj, Int32.reduceToInt] at *; omega)), rfl⟩
  · refine bs_iload_n (pc' := 6) dX6_in_5 rfl rfl ?_
    refine bs_iload_n (pc' := 7) dX6_in_6 rfl rfl ?_
    refine bs_icmp_gt (tgt := 14) (pc' := 10) dX6_in_7 rfl rfl (fun c7 => ?_) (fun c7 => ?_)
    · refine bs_iconst (v := 0) (pc' := 15) dX6_in_14 (by decide) rfl ?_
      exact bs_zret dX6_in_15 rfl (by decide) ⟨by congr 2; first | (rw [bI, if_pos]; simp only [decide_eq_true_eq]; (simp only [Int32.lt_iff_toInt_lt, Int32.le_iff_toInt_le, ← Int32.toInt_inj, Int32.reduceToInt] at *; omega)) | (rw [bI, if_neg]; simp only [decide_eq_true_eq]; (simp only [Int32.lt_iff_toInt_lt, Int32.le_iff_toInt_le, ← Int32.toInt_inj, Int32.reduceToInt] at *; omega)), rfl⟩
    · refine bs_iconst (v := 1) (pc' := 11) dX6_in_10 (by decide) rfl ?_
      refine bs_goto (tgt := 15) dX6_in_11 rfl ?_
      exact bs_zret dX6_in_15 rfl (by decide) ⟨by congr 2; first | (rw [bI, if_pos]; simp only [decide_eq_true_eq]; (simp only [Int32.lt_iff_toInt_lt, Int32.le_iff_toInt_le, ← Int32.toInt_inj, Int32.reduceToInt] at *; omega)) | (rw [bI, if_neg]; simp only [decide_eq_true_eq]; (simp only [Int32.lt_iff_toInt_lt, Int32.le_iff_toInt_le, ← Int32.toInt_inj, Int32.reduceToInt] at *; omega)), rfl⟩
theorem sm_granting {c : Nat} {t : Int32} {w : Bool} (hA : mOk y A) (hI : mInv σ) (hc : c < 80) : mSp G h0 y A σ hs mX6_granting 0 [.int (nI c), .int t, .int (bI w)] (mQi G h0 y A σ hs (oI (gr σ c t w))) := by
  have hn := (hI.sz hc).2
  have hsz := (hI.sz hc).1
  unfold gr
  generalize zN (σ 4 c) = n at hn hsz ⊢
  refine bs_Sp.of (by decide) rfl ?_
  have loop : ∀ m, m ≤ n → ∀ x, x = nI m - 1 → mB G h0 y A σ hs mX6_granting 0 10 [(0, .ref y), (1, .int (nI c)), (2, .int t), (3, .int (bI w)), (4, .int x)] [] (mQi G h0 y A σ hs (oI (grf (fun k => σ 5 (12 * c + k)) (fun k => σ 6 (12 * c + k)) t w m))) := by
    intro m
    induction m with
    | zero =>
      intro _ x hx
      subst hx
      refine bs_iload (pc' := 12) dX6_granting_10 rfl rfl ?_
      refine bs_if_lt (tgt := 90) (pc' := 15) dX6_granting_12 rfl rfl (fun _ => ?_) (fun c12 => absurd (by decide) c12)
      refine bs_iconst (v := (-1)) (pc' := 91) dX6_granting_90 (by decide) rfl ?_
      exact bs_iret dX6_granting_91 rfl ⟨rfl, rfl⟩
    | succ m ih =>
      intro hm x hx
      rw [nI_pred] at hx
      subst hx
      have j58 : ∀ z, z = bI (okp w (σ 6 (12 * c + m))) → mB G h0 y A σ hs mX6_granting 0 58 [(0, .ref y), (1, .int (nI c)), (2, .int t), (3, .int (bI w)), (4, .int (nI m)), (5, .int (σ 6 (12 * c + m)))] [.int z] (mQi G h0 y A σ hs (oI (grf (fun k => σ 5 (12 * c + k)) (fun k => σ 6 (12 * c + k)) t w (m + 1)))) := by
        intro z hz
        subst hz
        refine bs_istore (pc' := 60) (lv' := [(0, _), (1, _), (2, _), (3, _), (4, _), (5, _), (6, _)]) dX6_granting_58 rfl rfl rfl ?_
        refine bs_aload_n (pc' := 61) dX6_granting_60 rfl rfl rfl ?_
        refine bs_getf (pc' := 64) kf_X6_23 dX6_granting_61 mh_y rfl rfl ?_
        refine bs_bipush (v := 12) (pc' := 66) dX6_granting_64 (by decide) rfl ?_
        refine bs_iload_n (pc' := 67) dX6_granting_66 rfl rfl ?_
        refine bs_imul (pc' := 68) dX6_granting_67 rfl ?_
        refine bs_iload (pc' := 70) dX6_granting_68 rfl rfl ?_
        refine bs_iadd (pc' := 71) dX6_granting_70 rfl ?_
        refine bm_ald (pc' := 72) dX6_granting_71 hA rfl rfl (12 * c + m) (nI_12 c m) (by show _ < 960; omega) rfl ?_
        refine bs_iload_n (pc' := 73) dX6_granting_72 rfl rfl ?_
        refine bs_icmp_ne (tgt := 84) (pc' := 76) dX6_granting_73 rfl rfl (fun c73 => ?_) (fun c73 => ?_)
        · have e : grf (fun k => σ 5 (12 * c + k)) (fun k => σ 6 (12 * c + k)) t w (m + 1) = grf (fun k => σ 5 (12 * c + k)) (fun k => σ 6 (12 * c + k)) t w m := by first | (rw [bI_0] at c78; simp [grf, c78]) | simp [grf, c73]
          rw [e]
          refine bs_iinc (pc' := 87) (lv' := [(0, _), (1, _), (2, _), (3, _), (4, _), (5, _), (6, _)]) dX6_granting_84 rfl rfl rfl rfl rfl ?_
          refine bs_goto (tgt := 10) dX6_granting_87 rfl ?_
          refine bs_sub (lv' := [(0, _), (1, _), (2, _), (3, _), (4, _)]) [0, 1, 2, 3, 4] rfl ?_
          exact ih (by omega) _ (nI_m1 m)
        · refine bs_iload (pc' := 78) dX6_granting_76 rfl rfl ?_
          refine bs_if_eq (tgt := 84) (pc' := 81) dX6_granting_78 rfl rfl (fun c78 => ?_) (fun c78 => ?_)
          · have e : grf (fun k => σ 5 (12 * c + k)) (fun k => σ 6 (12 * c + k)) t w (m + 1) = grf (fun k => σ 5 (12 * c + k)) (fun k => σ 6 (12 * c + k)) t w m := by first | (rw [bI_0] at c78; simp [grf, c78]) | simp [grf, c73]
            rw [e]
            refine bs_iinc (pc' := 87) (lv' := [(0, _), (1, _), (2, _), (3, _), (4, _), (5, _), (6, _)]) dX6_granting_84 rfl rfl rfl rfl rfl ?_
            refine bs_goto (tgt := 10) dX6_granting_87 rfl ?_
            refine bs_sub (lv' := [(0, _), (1, _), (2, _), (3, _), (4, _)]) [0, 1, 2, 3, 4] rfl ?_
            exact ih (by omega) _ (nI_m1 m)
          · refine bs_iload (pc' := 83) dX6_granting_81 rfl rfl ?_
            exact bs_iret dX6_granting_83 rfl ⟨by rw [bI_n0] at c78; simp [grf, oI, c73, c78], rfl⟩
      refine bs_iload (pc' := 12) dX6_granting_10 rfl rfl ?_
      refine bs_if_lt (tgt := 90) (pc' := 15) dX6_granting_12 rfl rfl (fun c12 => absurd c12 (nI_pos (by omega))) (fun _ => ?_)
      refine bs_aload_n (pc' := 16) dX6_granting_15 rfl rfl rfl ?_
      refine bs_getf (pc' := 19) kf_X6_26 dX6_granting_16 mh_y rfl rfl ?_
      refine bs_bipush (v := 12) (pc' := 21) dX6_granting_19 (by decide) rfl ?_
      refine bs_iload_n (pc' := 22) dX6_granting_21 rfl rfl ?_
      refine bs_imul (pc' := 23) dX6_granting_22 rfl ?_
      refine bs_iload (pc' := 25) dX6_granting_23 rfl rfl ?_
      refine bs_iadd (pc' := 26) dX6_granting_25 rfl ?_
      refine bm_ald (pc' := 27) dX6_granting_26 hA rfl rfl (12 * c + m) (nI_12 c m) (by show _ < 960; omega) rfl ?_
      refine bs_istore (pc' := 29) (lv' := [(0, _), (1, _), (2, _), (3, _), (4, _), (5, _)]) dX6_granting_27 rfl rfl rfl ?_
      refine bs_iload_n (pc' := 30) dX6_granting_29 rfl rfl ?_
      refine bs_if_eq (tgt := 47) (pc' := 33) dX6_granting_30 rfl rfl (fun c30 => ?_) (fun c30 => ?_)
      · refine bs_iload (pc' := 49) dX6_granting_47 rfl rfl ?_
        refine bs_iconst (v := 3) (pc' := 50) dX6_granting_49 (by decide) rfl ?_
        refine bs_icmp_eq (tgt := 57) (pc' := 53) dX6_granting_50 rfl rfl (fun c50 => ?_) (fun c50 => ?_)
        · refine bs_iconst (v := 0) (pc' := 58) dX6_granting_57 (by decide) rfl ?_
          exact j58 _ (by cases w <;> first | (exfalso; revert c30; decide) | simp [okp, bI, c36] | simp [okp, bI, c50] | (simp only [okp, bI]; simp; (simp only [Int32.lt_iff_toInt_lt, Int32.le_iff_toInt_le, ← Int32.toInt_inj, Int32.reduceToInt] at *; omega)))
        · refine bs_iconst (v := 1) (pc' := 54) dX6_granting_53 (by decide) rfl ?_
          refine bs_goto (tgt := 58) dX6_granting_54 rfl ?_
          exact j58 _ (by cases w <;> first | (exfalso; revert c30; decide) | simp [okp, bI, c36] | simp [okp, bI, c50] | (simp only [okp, bI]; simp; (simp only [Int32.lt_iff_toInt_lt, Int32.le_iff_toInt_le, ← Int32.toInt_inj, Int32.reduceToInt] at *; omega)))
      · refine bs_iload (pc' := 35) dX6_granting_33 rfl rfl ?_
        refine bs_iconst (v := 2) (pc' := 36) dX6_granting_35 (by decide) rfl ?_
        refine bs_icmp_ge (tgt := 43) (pc' := 39) dX6_granting_36 rfl rfl (fun c36 => ?_) (fun c36 => ?_)
        · refine bs_iconst (v := 0) (pc' := 44) dX6_granting_43 (by decide) rfl ?_
          refine bs_goto (tgt := 58) dX6_granting_44 rfl ?_
          exact j58 _ (by cases w <;> first | (exfalso; revert c30; decide) | simp [okp, bI, c36] | simp [okp, bI, c50] | (simp only [okp, bI]; simp; (simp only [Int32.lt_iff_toInt_lt, Int32.le_iff_toInt_le, ← Int32.toInt_inj, Int32.reduceToInt] at *; omega)))
        · refine bs_iconst (v := 1) (pc' := 40) dX6_granting_39 (by decide) rfl ?_
          refine bs_goto (tgt := 58) dX6_granting_40 rfl ?_
          exact j58 _ (by cases w <;> first | (exfalso; revert c30; decide) | simp [okp, bI, c36] | simp [okp, bI, c50] | (simp only [okp, bI]; simp; (simp only [Int32.lt_iff_toInt_lt, Int32.le_iff_toInt_le, ← Int32.toInt_inj, Int32.reduceToInt] at *; omega)))
  refine bs_aload_n (pc' := 1) dX6_granting_0 rfl rfl rfl ?_
  refine bs_getf (pc' := 4) kf_X6_20 dX6_granting_1 mh_y rfl rfl ?_
  refine bs_iload_n (pc' := 5) dX6_granting_4 rfl rfl ?_
  refine bm_ald (pc' := 6) dX6_granting_5 hA rfl rfl c rfl hc rfl ?_
  refine bs_iconst (v := 1) (pc' := 7) dX6_granting_6 (by decide) rfl ?_
  refine bs_isub (pc' := 8) dX6_granting_7 rfl ?_
  refine bs_istore (pc' := 10) (lv' := [(0, _), (1, _), (2, _), (3, _), (4, _)]) dX6_granting_8 rfl rfl rfl ?_
  exact loop n (Nat.le_refl n) _ (by rw [hsz])
theorem sm_error {code : Int32} (j : Nat) (hj : j < 3) (hc : code = -2 - nI j) (hA : mOk y A) : mSp G h0 y A σ hs mX6_error 0 [.int code] (mQi G h0 y A (ms_u σ 15 j (σ 15 j + (if σ 16 0 = 0 then 1 else 0))) hs code) := by
  have hi : (-2 : Int32) - code = nI j := by
    subst hc
    match j, hj with
    | 0, _ => decide
    | 1, _ => decide
    | 2, _ => decide
  refine bs_Sp.of (by decide) rfl ?_
  have j22 : ∀ z, z = (if σ 16 0 = 0 then (1 : Int32) else 0) → mB G h0 y A σ hs mX6_error 0 22 [(0, .ref y), (1, .int code)] [.int z, .int (σ 15 j), .int ((-2) - code), .ref (A 15)] (mQi G h0 y A (ms_u σ 15 j (σ 15 j + (if σ 16 0 = 0 then 1 else 0))) hs code) := by
    intro z hz
    subst hz
    refine bs_iadd (pc' := 23) dX6_error_22 rfl ?_
    refine bm_ast (pc' := 24) dX6_error_23 hA rfl rfl j hi hj rfl ?_
    refine bs_iload_n (pc' := 25) dX6_error_24 rfl rfl ?_
    exact bs_iret dX6_error_25 rfl ⟨rfl, rfl⟩
  refine bs_aload_n (pc' := 1) dX6_error_0 rfl rfl rfl ?_
  refine bs_getf (pc' := 4) kf_X6_42 dX6_error_1 mh_y rfl rfl ?_
  refine bs_bipush (v := (-2)) (pc' := 6) dX6_error_4 (by decide) rfl ?_
  refine bs_iload_n (pc' := 7) dX6_error_6 rfl rfl ?_
  refine bs_isub (pc' := 8) dX6_error_7 rfl ?_
  refine bs_dup2 (pc' := 9) dX6_error_8 rfl rfl rfl ?_
  refine bm_ald (pc' := 10) dX6_error_9 hA rfl rfl j hi hj rfl ?_
  refine bs_aload_n (pc' := 11) dX6_error_10 rfl rfl rfl ?_
  refine bs_getf (pc' := 14) kf_X6_54 dX6_error_11 mh_y rfl rfl ?_
  refine bs_if_eq (tgt := 21) (pc' := 17) dX6_error_14 rfl rfl (fun c14 => ?_) (fun c14 => ?_)
  · refine bs_iconst (v := 1) (pc' := 22) dX6_error_21 (by decide) rfl ?_
    exact j22 _ (by first | rw [if_pos c14] | rw [if_neg c14])
  · refine bs_iconst (v := 0) (pc' := 18) dX6_error_17 (by decide) rfl ?_
    refine bs_goto (tgt := 22) dX6_error_18 rfl ?_
    exact j22 _ (by first | rw [if_pos c14] | rw [if_neg c14])
theorem sm_violate {kd cell : Int32} (hA : mOk y A) : mSp G h0 y A σ hs mX6_violate 0 [.int kd, .int cell] (mQi G h0 y A (ms_u (ms_u (ms_u σ 12 0 (σ 12 0 + 1)) 13 0 kd) 14 0 cell) hs (-5)) := by
  refine bs_Sp.of (by decide) rfl ?_
  refine bs_aload_n (pc' := 1) dX6_violate_0 rfl rfl rfl ?_
  refine bs_dup (pc' := 2) dX6_violate_1 rfl rfl ?_
  refine bs_getf (pc' := 5) kf_X6_58 dX6_violate_2 mh_y rfl rfl ?_
  refine bs_iconst (v := 1) (pc' := 6) dX6_violate_5 (by decide) rfl ?_
  refine bs_iadd (pc' := 7) dX6_violate_6 rfl ?_
  refine bm_put (pc' := 10) kf_X6_58 dX6_violate_7 rfl rfl rfl rfl ?_
  refine bs_aload_n (pc' := 11) dX6_violate_10 rfl rfl rfl ?_
  refine bs_iload_n (pc' := 12) dX6_violate_11 rfl rfl ?_
  refine bm_put (pc' := 15) kf_X6_61 dX6_violate_12 rfl rfl rfl rfl ?_
  refine bs_aload_n (pc' := 16) dX6_violate_15 rfl rfl rfl ?_
  refine bs_iload_n (pc' := 17) dX6_violate_16 rfl rfl ?_
  refine bm_put (pc' := 20) kf_X6_38 dX6_violate_17 rfl rfl rfl rfl ?_
  refine bs_bipush (v := (-5)) (pc' := 22) dX6_violate_20 (by decide) rfl ?_
  exact bs_iret dX6_violate_22 rfl ⟨rfl, rfl⟩
theorem sm_isPointer {p : Int32} (hI : mInv σ) : mSp G h0 y A σ hs mX6_isPointer 1 [.int p] (mQi G h0 y A σ hs (bI (inb p (zN (σ 8 0))))) := by
  have h1 := hI.nP.1
  refine bs_Sp.of (by decide) rfl ?_
  refine bs_iload_n (pc' := 1) dX6_isPointer_0 rfl rfl ?_
  refine bs_iconst (v := 0) (pc' := 2) dX6_isPointer_1 (by decide) rfl ?_
  refine bs_aload_n (pc' := 3) dX6_isPointer_2 rfl rfl rfl ?_
  refine bs_getf (pc' := 6) kf_X6_64 dX6_isPointer_3 mh_y rfl rfl ?_
  refine bs_iconst (v := 1) (pc' := 7) dX6_isPointer_6 (by decide) rfl ?_
  refine bs_isub (pc' := 8) dX6_isPointer_7 rfl ?_
  refine bs_callS (N := mX6_in) (pc' := 11) dX6_isPointer_8 km_X6_67 ko_X6_in sm_in rfl rfl rfl (by omega) (Nat.le_refl _) (Nat.le_refl _) rfl ?_
  rintro _ _ ⟨rfl, rfl⟩
  exact bs_zret dX6_isPointer_11 rfl (bI_01 _) ⟨by rw [inb, ← h1], rfl⟩
theorem sm_isCell {p c : Int32} (hA : mOk y A) (hI : mInv σ) : mSp G h0 y A σ hs mX6_isCell 2 [.int p, .int c] (mQi G h0 y A σ hs (bI (isC σ p c))) := by
  have h60 := hI.nP.2
  refine bs_Sp.of (by decide) rfl ?_
  refine bs_aload_n (pc' := 1) dX6_isCell_0 rfl rfl rfl ?_
  refine bs_iload_n (pc' := 2) dX6_isCell_1 rfl rfl ?_
  refine bs_callV (N := mX6_isPointer) (pc' := 5) dX6_isCell_2 km_X6_71 ko_X6_isPointer (sm_isPointer hI) mh_y rfl rfl rfl (by omega) (Nat.le_refl _) (Nat.le_refl _) rfl ?_
  rintro _ _ ⟨rfl, rfl⟩
  refine bs_if_eq (tgt := 33) (pc' := 8) dX6_isCell_5 rfl rfl (fun c5 => ?_) (fun c5 => ?_)
  · refine bs_iconst (v := 0) (pc' := 34) dX6_isCell_33 (by decide) rfl ?_
    exact bs_zret dX6_isCell_34 rfl (by decide) ⟨by first | (rw [bI_0] at c5; rw [isC, c5]; rfl) | (have hz : zN (nI j) = j := zN_nI (by have := hI.p60 hj; omega); first | (rw [bI_n0] at c26; rw [isC, c5, hz, inb, ← hcl.1, c26]; rfl) | (rw [bI_0] at c26; rw [isC, c5, hz, inb, ← hcl.1, c26]; rfl)), rfl⟩
  · rw [bI_n0] at c5
    obtain ⟨j, hj, rfl⟩ := inb_t (by omega) c5
    have h10 := hI.ow10 hj
    have hcl := (hI.cl (hI.ow hj).2).1
    refine bs_iload_n (pc' := 9) dX6_isCell_8 rfl rfl ?_
    refine bs_iconst (v := 0) (pc' := 10) dX6_isCell_9 (by decide) rfl ?_
    refine bs_aload_n (pc' := 11) dX6_isCell_10 rfl rfl rfl ?_
    refine bs_getf (pc' := 14) kf_X6_7 dX6_isCell_11 mh_y rfl rfl ?_
    refine bs_aload_n (pc' := 15) dX6_isCell_14 rfl rfl rfl ?_
    refine bs_getf (pc' := 18) kf_X6_32 dX6_isCell_15 mh_y rfl rfl ?_
    refine bs_iload_n (pc' := 19) dX6_isCell_18 rfl rfl ?_
    refine bm_ald (pc' := 20) dX6_isCell_19 hA rfl rfl j rfl (hI.p60 hj) rfl ?_
    refine bm_ald (pc' := 21) dX6_isCell_20 hA rfl rfl (zN (σ 9 j)) (hI.owe hj) h10 rfl ?_
    refine bs_iconst (v := 1) (pc' := 22) dX6_isCell_21 (by decide) rfl ?_
    refine bs_isub (pc' := 23) dX6_isCell_22 rfl ?_
    refine bs_callS (N := mX6_in) (pc' := 26) dX6_isCell_23 km_X6_67 ko_X6_in sm_in rfl rfl rfl (by omega) (Nat.le_refl _) (Nat.le_refl _) rfl ?_
    rintro _ _ ⟨rfl, rfl⟩
    refine bs_if_eq (tgt := 33) (pc' := 29) dX6_isCell_26 rfl rfl (fun c26 => ?_) (fun c26 => ?_)
    · refine bs_iconst (v := 0) (pc' := 34) dX6_isCell_33 (by decide) rfl ?_
      exact bs_zret dX6_isCell_34 rfl (by decide) ⟨by first | (rw [bI_0] at c5; rw [isC, c5]; rfl) | (have hz : zN (nI j) = j := zN_nI (by have := hI.p60 hj; omega); first | (rw [bI_n0] at c26; rw [isC, c5, hz, inb, ← hcl.1, c26]; rfl) | (rw [bI_0] at c26; rw [isC, c5, hz, inb, ← hcl.1, c26]; rfl)), rfl⟩
    · refine bs_iconst (v := 1) (pc' := 30) dX6_isCell_29 (by decide) rfl ?_
      refine bs_goto (tgt := 34) dX6_isCell_30 rfl ?_
      exact bs_zret dX6_isCell_34 rfl (by decide) ⟨by first | (rw [bI_0] at c5; rw [isC, c5]; rfl) | (have hz : zN (nI j) = j := zN_nI (by have := hI.p60 hj; omega); first | (rw [bI_n0] at c26; rw [isC, c5, hz, inb, ← hcl.1, c26]; rfl) | (rw [bI_0] at c26; rw [isC, c5, hz, inb, ← hcl.1, c26]; rfl)), rfl⟩
theorem sm_cellOf {p i : Nat} (hA : mOk y A) (hI : mInv σ) (h : isPc σ p i) : mSp G h0 y A σ hs mX6_cellOf 0 [.int (nI p), .int (nI i)] (mQi G h0 y A σ hs (nI (cO σ p i))) := by
  have h1 := hI.owe h.1
  refine bs_Sp.of (by decide) rfl ?_
  refine bs_bipush (v := 8) (pc' := 2) dX6_cellOf_0 (by decide) rfl ?_
  refine bs_aload_n (pc' := 3) dX6_cellOf_2 rfl rfl rfl ?_
  refine bs_getf (pc' := 6) kf_X6_32 dX6_cellOf_3 mh_y rfl rfl ?_
  refine bs_iload_n (pc' := 7) dX6_cellOf_6 rfl rfl ?_
  refine bm_ald (pc' := 8) dX6_cellOf_7 hA rfl rfl p rfl (hI.p60 h.1) rfl ?_
  refine bs_imul (pc' := 9) dX6_cellOf_8 rfl ?_
  refine bs_iload_n (pc' := 10) dX6_cellOf_9 rfl rfl ?_
  refine bs_iadd (pc' := 11) dX6_cellOf_10 rfl ?_
  exact bs_iret dX6_cellOf_11 rfl ⟨by rw [h1, nI_8]; rfl, rfl⟩
theorem sm_above {c k : Nat} (hA : mOk y A) (hI : mInv σ) (hc : c < 80) (hk : k < zN (σ 4 c)) : mSp G h0 y A σ hs mX6_above 0 [.int (nI c), .int (nI k)] (mQi G h0 y A σ hs (nI (ab σ c k))) := by
  have hn := (hI.sz hc).2
  have hsz := (hI.sz hc).1
  unfold ab
  generalize zN (σ 4 c) = n at hn hsz hk ⊢
  refine bs_Sp.of (by decide) rfl ?_
  have loop : ∀ f j, j + f = n → mB G h0 y A σ hs mX6_above 0 19 [(0, .ref y), (1, .int (nI c)), (2, .int (nI k)), (3, .int (nI j))] [] (mQi G h0 y A σ hs (nI (srw (fun k => σ 6 (12 * c + k)) f j))) := by
    intro f
    induction f with
    | zero =>
      intro j hj
      refine bs_iload_n (pc' := 20) dX6_above_19 rfl rfl ?_
      refine bs_aload_n (pc' := 21) dX6_above_20 rfl rfl rfl ?_
      refine bs_getf (pc' := 24) kf_X6_20 dX6_above_21 mh_y rfl rfl ?_
      refine bs_iload_n (pc' := 25) dX6_above_24 rfl rfl ?_
      refine bm_ald (pc' := 26) dX6_above_25 hA rfl rfl c rfl hc rfl ?_
      refine bs_icmp_ge (tgt := 50) (pc' := 29) dX6_above_26 rfl rfl (fun _ => ?_) (fun c26 => absurd (by rw [hsz]; exact nI_le (by omega) (by omega)) c26)
      refine bs_iload_n (pc' := 51) dX6_above_50 rfl rfl ?_
      exact bs_iret dX6_above_51 rfl ⟨rfl, rfl⟩
    | succ f ih =>
      intro j hj
      refine bs_iload_n (pc' := 20) dX6_above_19 rfl rfl ?_
      refine bs_aload_n (pc' := 21) dX6_above_20 rfl rfl rfl ?_
      refine bs_getf (pc' := 24) kf_X6_20 dX6_above_21 mh_y rfl rfl ?_
      refine bs_iload_n (pc' := 25) dX6_above_24 rfl rfl ?_
      refine bm_ald (pc' := 26) dX6_above_25 hA rfl rfl c rfl hc rfl ?_
      refine bs_icmp_ge (tgt := 50) (pc' := 29) dX6_above_26 rfl rfl (fun c26 => absurd c26 (by rw [hsz]; exact nI_ge (by omega) (by omega))) (fun _ => ?_)
      refine bs_aload_n (pc' := 30) dX6_above_29 rfl rfl rfl ?_
      refine bs_getf (pc' := 33) kf_X6_26 dX6_above_30 mh_y rfl rfl ?_
      refine bs_bipush (v := 12) (pc' := 35) dX6_above_33 (by decide) rfl ?_
      refine bs_iload_n (pc' := 36) dX6_above_35 rfl rfl ?_
      refine bs_imul (pc' := 37) dX6_above_36 rfl ?_
      refine bs_iload_n (pc' := 38) dX6_above_37 rfl rfl ?_
      refine bs_iadd (pc' := 39) dX6_above_38 rfl ?_
      refine bm_ald (pc' := 40) dX6_above_39 hA rfl rfl (12 * c + j) (nI_12 c j) (by show _ < 960; omega) rfl ?_
      refine bs_iconst (v := 1) (pc' := 41) dX6_above_40 (by decide) rfl ?_
      refine bs_icmp_ne (tgt := 50) (pc' := 44) dX6_above_41 rfl rfl (fun c41 => ?_) (fun c41 => ?_)
      · refine bs_iload_n (pc' := 51) dX6_above_50 rfl rfl ?_
        exact bs_iret dX6_above_51 rfl ⟨by simp [srw, c41], rfl⟩
      · refine bs_iinc (pc' := 47) (lv' := [(0, _), (1, _), (2, _), (3, _)]) dX6_above_44 rfl (nI_i1 j) rfl rfl rfl ?_
        refine bs_goto (tgt := 19) dX6_above_47 rfl ?_
        have e : srw (fun k => σ 6 (12 * c + k)) (f + 1) j = srw (fun k => σ 6 (12 * c + k)) f (j + 1) := by simp [srw, c41]
        rw [e]
        exact ih (j + 1) (by omega)
  refine bs_iload_n (pc' := 1) dX6_above_0 rfl rfl ?_
  refine bs_iconst (v := 1) (pc' := 2) dX6_above_1 (by decide) rfl ?_
  refine bs_iadd (pc' := 3) dX6_above_2 rfl ?_
  refine bs_topi (nI (k + 1)) (nI_1 k) ?_
  refine bs_istore_n (pc' := 4) (lv' := [(0, _), (1, _), (2, _), (3, _)]) dX6_above_3 rfl rfl rfl ?_
  refine bs_aload_n (pc' := 5) dX6_above_4 rfl rfl rfl ?_
  refine bs_getf (pc' := 8) kf_X6_26 dX6_above_5 mh_y rfl rfl ?_
  refine bs_bipush (v := 12) (pc' := 10) dX6_above_8 (by decide) rfl ?_
  refine bs_iload_n (pc' := 11) dX6_above_10 rfl rfl ?_
  refine bs_imul (pc' := 12) dX6_above_11 rfl ?_
  refine bs_iload_n (pc' := 13) dX6_above_12 rfl rfl ?_
  refine bs_iadd (pc' := 14) dX6_above_13 rfl ?_
  refine bm_ald (pc' := 15) dX6_above_14 hA rfl rfl (12 * c + k) (nI_12 c k) (by show _ < 960; omega) rfl ?_
  refine bs_iconst (v := 1) (pc' := 16) dX6_above_15 (by decide) rfl ?_
  refine bs_icmp_ne (tgt := 50) (pc' := 19) dX6_above_16 rfl rfl (fun c16 => ?_) (fun c16 => ?_)
  · refine bs_iload_n (pc' := 51) dX6_above_50 rfl rfl ?_
    exact bs_iret dX6_above_51 rfl ⟨by simp [abf, c16], rfl⟩
  · have e : abf (fun k => σ 6 (12 * c + k)) n k = srw (fun k => σ 6 (12 * c + k)) (n - (k + 1)) (k + 1) := by simp [abf, c16]
    rw [e]
    exact loop _ _ (by omega)
end Model1
