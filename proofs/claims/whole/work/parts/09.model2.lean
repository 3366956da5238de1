section Model2
variable {G : GG} {h0 : Hp} {y : Nat} {A : Nat → Nat} {σ : MS} {hs : Int64}
theorem sm_isGuarded {c j0 : Nat} {all : Bool} (hA : mOk y A) (hI : mInv σ) (hc : c < 80) (hj0 : j0 ≤ 13) : mSp G h0 y A σ hs mX6_isGuarded 0 [.int (nI c), .int (nI j0), .int (bI all)] (mQi G h0 y A σ hs (bI (gd σ c j0 all))) := by
  have hn := (hI.sz hc).2
  have hsz := (hI.sz hc).1
  unfold gd
  generalize zN (σ 4 c) = n at hn hsz ⊢
  refine bs_Sp.of (by decide) rfl ?_
  have loop : ∀ f j b, f = n - j → j ≤ 13 → mB G h0 y A σ hs mX6_isGuarded 0 6 [(0, .ref y), (1, .int (nI c)), (2, .int (nI j0)), (3, .int (bI all)), (4, .int (bI b)), (5, .int (nI j))] [] (mQi G h0 y A σ hs (bI (b || gdf (fun k => σ 6 (12 * c + k)) (fun k => σ 7 (12 * c + k)) all f j))) := by
    intro f
    induction f with
    | zero =>
      intro j b hj hj13
      refine bs_iload (pc' := 8) dX6_isGuarded_6 rfl rfl ?_
      refine bs_aload_n (pc' := 9) dX6_isGuarded_8 rfl rfl rfl ?_
      refine bs_getf (pc' := 12) kf_X6_20 dX6_isGuarded_9 mh_y rfl rfl ?_
      refine bs_iload_n (pc' := 13) dX6_isGuarded_12 rfl rfl ?_
      refine bm_ald (pc' := 14) dX6_isGuarded_13 hA rfl rfl c rfl hc rfl ?_
      refine bs_icmp_ge (tgt := 81) (pc' := 17) dX6_isGuarded_14 rfl rfl (fun _ => ?_) (fun c14 => absurd (by rw [hsz]; exact nI_le (by omega) (by omega)) c14)
      refine bs_iload (pc' := 83) dX6_isGuarded_81 rfl rfl ?_
      exact bs_zret dX6_isGuarded_83 rfl (bI_01 _) ⟨by simp [gdf], rfl⟩
    | succ f ih =>
      intro j b hj hj13
      have j73 : ∀ z w, z = bI (b || ((all || decide (σ 6 (12 * c + j) = 0)) && decide (0 < σ 7 (12 * c + j)))) → mB G h0 y A σ hs mX6_isGuarded 0 73 [(0, .ref y), (1, .int (nI c)), (2, .int (nI j0)), (3, .int (bI all)), (4, .int (bI b)), (5, .int (nI j)), (6, .int w)] [.int z] (mQi G h0 y A σ hs (bI (b || gdf (fun k => σ 6 (12 * c + k)) (fun k => σ 7 (12 * c + k)) all (f + 1) j))) := by
        intro z w hz
        subst hz
        refine bs_istore (pc' := 75) (lv' := [(0, _), (1, _), (2, _), (3, _), (4, _), (5, _), (6, _)]) dX6_isGuarded_73 rfl rfl rfl ?_
        refine bs_iinc (pc' := 78) (lv' := [(0, _), (1, _), (2, _), (3, _), (4, _), (5, _), (6, _)]) dX6_isGuarded_75 rfl (nI_i1 j) rfl rfl rfl ?_
        refine bs_goto (tgt := 6) dX6_isGuarded_78 rfl ?_
        refine bs_sub (lv' := [(0, _), (1, _), (2, _), (3, _), (4, _), (5, _)]) [0, 1, 2, 3, 4, 5] rfl ?_
        have e := ih (j + 1) (b || ((all || decide (σ 6 (12 * c + j) = 0)) && decide (0 < σ 7 (12 * c + j)))) (by omega) (by omega)
        rw [Bool.or_assoc] at e
        exact e
      have j41 : ∀ z, z = bI (all || decide (σ 6 (12 * c + j) = 0)) → mB G h0 y A σ hs mX6_isGuarded 0 41 [(0, .ref y), (1, .int (nI c)), (2, .int (nI j0)), (3, .int (bI all)), (4, .int (bI b)), (5, .int (nI j))] [.int z] (mQi G h0 y A σ hs (bI (b || gdf (fun k => σ 6 (12 * c + k)) (fun k => σ 7 (12 * c + k)) all (f + 1) j))) := by
        intro z hz
        subst hz
        refine bs_istore (pc' := 43) (lv' := [(0, _), (1, _), (2, _), (3, _), (4, _), (5, _), (6, _)]) dX6_isGuarded_41 rfl rfl rfl ?_
        refine bs_iload (pc' := 45) dX6_isGuarded_43 rfl rfl ?_
        refine bs_if_ne (tgt := 68) (pc' := 48) dX6_isGuarded_45 rfl rfl (fun c45 => ?_) (fun c45 => ?_)
        · refine bs_iconst (v := 1) (pc' := 69) dX6_isGuarded_68 (by decide) rfl ?_
          refine bs_goto (tgt := 73) dX6_isGuarded_69 rfl ?_
          exact j73 _ _ (by first | (rw [bI_n0] at c45; rw [c45]; rfl) | (rw [bI_0] at c45 c50; rw [c45, c50]; rfl) | (rw [bI_0] at c45; rw [bI_n0] at c50; rw [c45, c50, decide_eq_false (Int32.not_lt.mpr c65)]; rfl) | (rw [bI_0] at c45; rw [bI_n0] at c50; rw [c45, c50, decide_eq_true (Int32.not_le.mp c65)]; rfl))
        · refine bs_iload (pc' := 50) dX6_isGuarded_48 rfl rfl ?_
          refine bs_if_eq (tgt := 72) (pc' := 53) dX6_isGuarded_50 rfl rfl (fun c50 => ?_) (fun c50 => ?_)
          · refine bs_iconst (v := 0) (pc' := 73) dX6_isGuarded_72 (by decide) rfl ?_
            exact j73 _ _ (by first | (rw [bI_n0] at c45; rw [c45]; rfl) | (rw [bI_0] at c45 c50; rw [c45, c50]; rfl) | (rw [bI_0] at c45; rw [bI_n0] at c50; rw [c45, c50, decide_eq_false (Int32.not_lt.mpr c65)]; rfl) | (rw [bI_0] at c45; rw [bI_n0] at c50; rw [c45, c50, decide_eq_true (Int32.not_le.mp c65)]; rfl))
          · refine bs_aload_n (pc' := 54) dX6_isGuarded_53 rfl rfl rfl ?_
            refine bs_getf (pc' := 57) kf_X6_29 dX6_isGuarded_54 mh_y rfl rfl ?_
            refine bs_bipush (v := 12) (pc' := 59) dX6_isGuarded_57 (by decide) rfl ?_
            refine bs_iload_n (pc' := 60) dX6_isGuarded_59 rfl rfl ?_
            refine bs_imul (pc' := 61) dX6_isGuarded_60 rfl ?_
            refine bs_iload (pc' := 63) dX6_isGuarded_61 rfl rfl ?_
            refine bs_iadd (pc' := 64) dX6_isGuarded_63 rfl ?_
            refine bm_ald (pc' := 65) dX6_isGuarded_64 hA rfl rfl (12 * c + j) (nI_12 c j) (by show _ < 960; omega) rfl ?_
            refine bs_if_le (tgt := 72) (pc' := 68) dX6_isGuarded_65 rfl rfl (fun c65 => ?_) (fun c65 => ?_)
            · refine bs_iconst (v := 0) (pc' := 73) dX6_isGuarded_72 (by decide) rfl ?_
              exact j73 _ _ (by first | (rw [bI_n0] at c45; rw [c45]; rfl) | (rw [bI_0] at c45 c50; rw [c45, c50]; rfl) | (rw [bI_0] at c45; rw [bI_n0] at c50; rw [c45, c50, decide_eq_false (Int32.not_lt.mpr c65)]; rfl) | (rw [bI_0] at c45; rw [bI_n0] at c50; rw [c45, c50, decide_eq_true (Int32.not_le.mp c65)]; rfl))
            · refine bs_iconst (v := 1) (pc' := 69) dX6_isGuarded_68 (by decide) rfl ?_
              refine bs_goto (tgt := 73) dX6_isGuarded_69 rfl ?_
              exact j73 _ _ (by first | (rw [bI_n0] at c45; rw [c45]; rfl) | (rw [bI_0] at c45 c50; rw [c45, c50]; rfl) | (rw [bI_0] at c45; rw [bI_n0] at c50; rw [c45, c50, decide_eq_false (Int32.not_lt.mpr c65)]; rfl) | (rw [bI_0] at c45; rw [bI_n0] at c50; rw [c45, c50, decide_eq_true (Int32.not_le.mp c65)]; rfl))
      refine bs_iload (pc' := 8) dX6_isGuarded_6 rfl rfl ?_
      refine bs_aload_n (pc' := 9) dX6_isGuarded_8 rfl rfl rfl ?_
      refine bs_getf (pc' := 12) kf_X6_20 dX6_isGuarded_9 mh_y rfl rfl ?_
      refine bs_iload_n (pc' := 13) dX6_isGuarded_12 rfl rfl ?_
      refine bm_ald (pc' := 14) dX6_isGuarded_13 hA rfl rfl c rfl hc rfl ?_
      refine bs_icmp_ge (tgt := 81) (pc' := 17) dX6_isGuarded_14 rfl rfl (fun c14 => absurd c14 (by rw [hsz]; exact nI_ge (by omega) (by omega))) (fun _ => ?_)
      refine bs_iload_n (pc' := 18) dX6_isGuarded_17 rfl rfl ?_
      refine bs_if_ne (tgt := 36) (pc' := 21) dX6_isGuarded_18 rfl rfl (fun c18 => ?_) (fun c18 => ?_)
      · refine bs_iconst (v := 1) (pc' := 37) dX6_isGuarded_36 (by decide) rfl ?_
        refine bs_goto (tgt := 41) dX6_isGuarded_37 rfl ?_
        exact j41 _ (by first | (rw [bI_n0] at c18; simp [c18, bI]; done) | (rw [bI_0] at c18; simp [c18, c33, bI]; done))
      · refine bs_aload_n (pc' := 22) dX6_isGuarded_21 rfl rfl rfl ?_
        refine bs_getf (pc' := 25) kf_X6_26 dX6_isGuarded_22 mh_y rfl rfl ?_
        refine bs_bipush (v := 12) (pc' := 27) dX6_isGuarded_25 (by decide) rfl ?_
        refine bs_iload_n (pc' := 28) dX6_isGuarded_27 rfl rfl ?_
        refine bs_imul (pc' := 29) dX6_isGuarded_28 rfl ?_
        refine bs_iload (pc' := 31) dX6_isGuarded_29 rfl rfl ?_
        refine bs_iadd (pc' := 32) dX6_isGuarded_31 rfl ?_
        refine bm_ald (pc' := 33) dX6_isGuarded_32 hA rfl rfl (12 * c + j) (nI_12 c j) (by show _ < 960; omega) rfl ?_
        refine bs_if_ne (tgt := 40) (pc' := 36) dX6_isGuarded_33 rfl rfl (fun c33 => ?_) (fun c33 => ?_)
        · refine bs_iconst (v := 0) (pc' := 41) dX6_isGuarded_40 (by decide) rfl ?_
          exact j41 _ (by first | (rw [bI_n0] at c18; simp [c18, bI]; done) | (rw [bI_0] at c18; simp [c18, c33, bI]; done))
        · refine bs_iconst (v := 1) (pc' := 37) dX6_isGuarded_36 (by decide) rfl ?_
          refine bs_goto (tgt := 41) dX6_isGuarded_37 rfl ?_
          exact j41 _ (by first | (rw [bI_n0] at c18; simp [c18, bI]; done) | (rw [bI_0] at c18; simp [c18, c33, bI]; done))
  refine bs_iconst (v := 0) (pc' := 1) dX6_isGuarded_0 (by decide) rfl ?_
  refine bs_istore (pc' := 3) (lv' := [(0, _), (1, _), (2, _), (3, _), (4, _)]) dX6_isGuarded_1 rfl rfl rfl ?_
  refine bs_iload_n (pc' := 4) dX6_isGuarded_3 rfl rfl ?_
  refine bs_istore (pc' := 6) (lv' := [(0, _), (1, _), (2, _), (3, _), (4, _), (5, _)]) dX6_isGuarded_4 rfl rfl rfl ?_
  have e := loop (n - j0) j0 false rfl hj0
  exact e
theorem sm_readKind {p i : Nat} (hA : mOk y A) (hI : mInv σ) (h : isPc σ p i) : mSp G h0 y A σ hs mX6_readKind 1 [.int (nI p), .int (nI i)] (mQi G h0 y A σ hs (rdK σ p i)) := by
  have hc := (hI.cell h).2
  have hc : cO σ p i < 80 := hc
  refine bs_Sp.of (by decide) rfl ?_
  have j32 : σ 2 (zN (σ 9 p)) = 0 → mB G h0 y A σ hs mX6_readKind 1 32 [(0, .ref y), (1, .int (nI p)), (2, .int (nI i)), (3, .int (nI (cO σ p i))), (4, .int (oI (gr σ (cO σ p i) (nI p) false)))] [] (mQi G h0 y A σ hs (rdK σ p i)) := by
    intro hf
    cases hg : gr σ (cO σ p i) (nI p) false with
    | none =>
      refine bs_iload (pc' := 34) dX6_readKind_32 rfl rfl ?_
      refine bs_iconst (v := (-1)) (pc' := 35) dX6_readKind_34 (by decide) rfl ?_
      refine bs_icmp_ne (tgt := 42) (pc' := 38) dX6_readKind_35 rfl rfl (fun c35 => absurd (show oI none = -1 from rfl) c35) (fun _ => ?_)
      refine bs_iconst (v := 1) (pc' := 39) dX6_readKind_38 (by decide) rfl ?_
      refine bs_goto (tgt := 60) dX6_readKind_39 rfl ?_
      exact bs_iret dX6_readKind_60 rfl ⟨by simp [rdK, hf, hg], rfl⟩
    | some k =>
      have hk : k < zN (σ 4 (cO σ p i)) := grf_lt hg
      have hn := (hI.sz hc).2
      refine bs_iload (pc' := 34) dX6_readKind_32 rfl rfl ?_
      refine bs_iconst (v := (-1)) (pc' := 35) dX6_readKind_34 (by decide) rfl ?_
      refine bs_icmp_ne (tgt := 42) (pc' := 38) dX6_readKind_35 rfl rfl (fun _ => ?_) (fun c35 => absurd c35 (nI_ne_m1 (k := k) (by omega)))
      refine bs_aload_n (pc' := 43) dX6_readKind_42 rfl rfl rfl ?_
      refine bs_iload_n (pc' := 44) dX6_readKind_43 rfl rfl ?_
      refine bs_iload (pc' := 46) dX6_readKind_44 rfl rfl ?_
      refine bs_iconst (v := 1) (pc' := 47) dX6_readKind_46 (by decide) rfl ?_
      refine bs_iadd (pc' := 48) dX6_readKind_47 rfl ?_
      refine bs_topi (nI (k + 1)) (nI_1 k) ?_
      refine bs_iconst (v := 0) (pc' := 49) dX6_readKind_48 (by decide) rfl ?_
      refine bs_callV (N := mX6_isGuarded) (pc' := 52) dX6_readKind_49 km_X6_83 ko_X6_isGuarded (sm_isGuarded (all := false) hA hI hc (by omega)) mh_y rfl rfl rfl (by omega) (Nat.le_refl _) (Nat.le_refl _) rfl ?_
      rintro _ _ ⟨rfl, rfl⟩
      refine bs_if_eq (tgt := 59) (pc' := 55) dX6_readKind_52 rfl rfl (fun c52 => ?_) (fun c52 => ?_)
      · refine bs_iconst (v := 0) (pc' := 60) dX6_readKind_59 (by decide) rfl ?_
        exact bs_iret dX6_readKind_60 rfl ⟨by first | (rw [bI_0] at c52; simp [rdK, hf, hg, c52]; done) | (rw [bI_n0] at c52; simp [rdK, hf, hg, c52]; done), rfl⟩
      · refine bs_iconst (v := 2) (pc' := 56) dX6_readKind_55 (by decide) rfl ?_
        refine bs_goto (tgt := 60) dX6_readKind_56 rfl ?_
        exact bs_iret dX6_readKind_60 rfl ⟨by first | (rw [bI_0] at c52; simp [rdK, hf, hg, c52]; done) | (rw [bI_n0] at c52; simp [rdK, hf, hg, c52]; done), rfl⟩
  refine bs_aload_n (pc' := 1) dX6_readKind_0 rfl rfl rfl ?_
  refine bs_iload_n (pc' := 2) dX6_readKind_1 rfl rfl ?_
  refine bs_iload_n (pc' := 3) dX6_readKind_2 rfl rfl ?_
  refine bs_callV (N := mX6_cellOf) (pc' := 6) dX6_readKind_3 km_X6_75 ko_X6_cellOf (sm_cellOf hA hI h) mh_y rfl rfl rfl (by omega) (Nat.le_refl _) (Nat.le_refl _) rfl ?_
  rintro _ _ ⟨rfl, rfl⟩
  refine bs_istore_n (pc' := 7) (lv' := [(0, _), (1, _), (2, _), (3, _)]) dX6_readKind_6 rfl rfl rfl ?_
  refine bs_aload_n (pc' := 8) dX6_readKind_7 rfl rfl rfl ?_
  refine bs_getf (pc' := 11) kf_X6_13 dX6_readKind_8 mh_y rfl rfl ?_
  refine bs_aload_n (pc' := 12) dX6_readKind_11 rfl rfl rfl ?_
  refine bs_getf (pc' := 15) kf_X6_32 dX6_readKind_12 mh_y rfl rfl ?_
  refine bs_iload_n (pc' := 16) dX6_readKind_15 rfl rfl ?_
  refine bm_ald (pc' := 17) dX6_readKind_16 hA rfl rfl p rfl (hI.p60 h.1) rfl ?_
  refine bm_zld (pc' := 18) dX6_readKind_17 hA (zN (σ 9 p)) (hI.owe h.1) (hI.ow10 h.1) rfl ?_
  refine bs_if_eq (tgt := 23) (pc' := 21) dX6_readKind_18 rfl rfl (fun c18 => ?_) (fun c18 => ?_)
  · refine bs_aload_n (pc' := 24) dX6_readKind_23 rfl rfl rfl ?_
    refine bs_iload_n (pc' := 25) dX6_readKind_24 rfl rfl ?_
    refine bs_iload_n (pc' := 26) dX6_readKind_25 rfl rfl ?_
    refine bs_iconst (v := 0) (pc' := 27) dX6_readKind_26 (by decide) rfl ?_
    refine bs_callV (N := mX6_granting) (pc' := 30) dX6_readKind_27 km_X6_79 ko_X6_granting (sm_granting (w := false) hA hI hc) mh_y rfl rfl rfl (by omega) (Nat.le_refl _) (Nat.le_refl _) rfl ?_
    rintro _ _ ⟨rfl, rfl⟩
    refine bs_istore (pc' := 32) (lv' := [(0, _), (1, _), (2, _), (3, _), (4, _)]) dX6_readKind_30 rfl rfl rfl ?_
    exact j32 c18
  · refine bs_iconst (v := 3) (pc' := 22) dX6_readKind_21 (by decide) rfl ?_
    exact bs_iret dX6_readKind_22 rfl ⟨by simp [rdK, c18], rfl⟩
theorem sm_writeKind {p i : Nat} (hA : mOk y A) (hI : mInv σ) (h : isPc σ p i) : mSp G h0 y A σ hs mX6_writeKind 1 [.int (nI p), .int (nI i)] (mQi G h0 y A σ hs (wrK σ p i)) := by
  have hc := (hI.cell h).2
  have hc : cO σ p i < 80 := hc
  refine bs_Sp.of (by decide) rfl ?_
  have j32 : σ 2 (zN (σ 9 p)) = 0 → mB G h0 y A σ hs mX6_writeKind 1 32 [(0, .ref y), (1, .int (nI p)), (2, .int (nI i)), (3, .int (nI (cO σ p i))), (4, .int (oI (gr σ (cO σ p i) (nI p) true)))] [] (mQi G h0 y A σ hs (wrK σ p i)) := by
    intro hf
    cases hg : gr σ (cO σ p i) (nI p) true with
    | none =>
      refine bs_iload (pc' := 34) dX6_writeKind_32 rfl rfl ?_
      refine bs_iconst (v := (-1)) (pc' := 35) dX6_writeKind_34 (by decide) rfl ?_
      refine bs_icmp_ne (tgt := 42) (pc' := 38) dX6_writeKind_35 rfl rfl (fun c35 => absurd (show oI none = -1 from rfl) c35) (fun _ => ?_)
      refine bs_iconst (v := 1) (pc' := 39) dX6_writeKind_38 (by decide) rfl ?_
      refine bs_goto (tgt := 63) dX6_writeKind_39 rfl ?_
      exact bs_iret dX6_writeKind_63 rfl ⟨by simp [wrK, hf, hg], rfl⟩
    | some k =>
      have hk : k < zN (σ 4 (cO σ p i)) := grf_lt hg
      have hn := (hI.sz hc).2
      have hab := (abf_le (pm := fun k => σ 6 (12 * cO σ p i + k)) hk).2
      have hab : ab σ (cO σ p i) k ≤ zN (σ 4 (cO σ p i)) := hab
      refine bs_iload (pc' := 34) dX6_writeKind_32 rfl rfl ?_
      refine bs_iconst (v := (-1)) (pc' := 35) dX6_writeKind_34 (by decide) rfl ?_
      refine bs_icmp_ne (tgt := 42) (pc' := 38) dX6_writeKind_35 rfl rfl (fun _ => ?_) (fun c35 => absurd c35 (nI_ne_m1 (k := k) (by omega)))
      refine bs_aload_n (pc' := 43) dX6_writeKind_42 rfl rfl rfl ?_
      refine bs_iload_n (pc' := 44) dX6_writeKind_43 rfl rfl ?_
      refine bs_aload_n (pc' := 45) dX6_writeKind_44 rfl rfl rfl ?_
      refine bs_iload_n (pc' := 46) dX6_writeKind_45 rfl rfl ?_
      refine bs_iload (pc' := 48) dX6_writeKind_46 rfl rfl ?_
      refine bs_callV (N := mX6_above) (pc' := 51) dX6_writeKind_48 km_X6_87 ko_X6_above (sm_above hA hI hc hk) mh_y rfl rfl rfl (by omega) (Nat.le_refl _) (Nat.le_refl _) rfl ?_
      rintro _ _ ⟨rfl, rfl⟩
      refine bs_iconst (v := 1) (pc' := 52) dX6_writeKind_51 (by decide) rfl ?_
      refine bs_callV (N := mX6_isGuarded) (pc' := 55) dX6_writeKind_52 km_X6_83 ko_X6_isGuarded (sm_isGuarded (all := true) hA hI hc (by omega)) mh_y rfl rfl rfl (by omega) (Nat.le_refl _) (Nat.le_refl _) rfl ?_
      rintro _ _ ⟨rfl, rfl⟩
      refine bs_if_eq (tgt := 62) (pc' := 58) dX6_writeKind_55 rfl rfl (fun c55 => ?_) (fun c55 => ?_)
      · refine bs_iconst (v := 0) (pc' := 63) dX6_writeKind_62 (by decide) rfl ?_
        exact bs_iret dX6_writeKind_63 rfl ⟨by first | (rw [bI_0] at c55; simp [wrK, hf, hg, c55]; done) | (rw [bI_n0] at c55; simp [wrK, hf, hg, c55]; done), rfl⟩
      · refine bs_iconst (v := 2) (pc' := 59) dX6_writeKind_58 (by decide) rfl ?_
        refine bs_goto (tgt := 63) dX6_writeKind_59 rfl ?_
        exact bs_iret dX6_writeKind_63 rfl ⟨by first | (rw [bI_0] at c55; simp [wrK, hf, hg, c55]; done) | (rw [bI_n0] at c55; simp [wrK, hf, hg, c55]; done), rfl⟩
  refine bs_aload_n (pc' := 1) dX6_writeKind_0 rfl rfl rfl ?_
  refine bs_iload_n (pc' := 2) dX6_writeKind_1 rfl rfl ?_
  refine bs_iload_n (pc' := 3) dX6_writeKind_2 rfl rfl ?_
  refine bs_callV (N := mX6_cellOf) (pc' := 6) dX6_writeKind_3 km_X6_75 ko_X6_cellOf (sm_cellOf hA hI h) mh_y rfl rfl rfl (by omega) (Nat.le_refl _) (Nat.le_refl _) rfl ?_
  rintro _ _ ⟨rfl, rfl⟩
  refine bs_istore_n (pc' := 7) (lv' := [(0, _), (1, _), (2, _), (3, _)]) dX6_writeKind_6 rfl rfl rfl ?_
  refine bs_aload_n (pc' := 8) dX6_writeKind_7 rfl rfl rfl ?_
  refine bs_getf (pc' := 11) kf_X6_13 dX6_writeKind_8 mh_y rfl rfl ?_
  refine bs_aload_n (pc' := 12) dX6_writeKind_11 rfl rfl rfl ?_
  refine bs_getf (pc' := 15) kf_X6_32 dX6_writeKind_12 mh_y rfl rfl ?_
  refine bs_iload_n (pc' := 16) dX6_writeKind_15 rfl rfl ?_
  refine bm_ald (pc' := 17) dX6_writeKind_16 hA rfl rfl p rfl (hI.p60 h.1) rfl ?_
  refine bm_zld (pc' := 18) dX6_writeKind_17 hA (zN (σ 9 p)) (hI.owe h.1) (hI.ow10 h.1) rfl ?_
  refine bs_if_eq (tgt := 23) (pc' := 21) dX6_writeKind_18 rfl rfl (fun c18 => ?_) (fun c18 => ?_)
  · refine bs_aload_n (pc' := 24) dX6_writeKind_23 rfl rfl rfl ?_
    refine bs_iload_n (pc' := 25) dX6_writeKind_24 rfl rfl ?_
    refine bs_iload_n (pc' := 26) dX6_writeKind_25 rfl rfl ?_
    refine bs_iconst (v := 1) (pc' := 27) dX6_writeKind_26 (by decide) rfl ?_
    refine bs_callV (N := mX6_granting) (pc' := 30) dX6_writeKind_27 km_X6_79 ko_X6_granting (sm_granting (w := true) hA hI hc) mh_y rfl rfl rfl (by omega) (Nat.le_refl _) (Nat.le_refl _) rfl ?_
    rintro _ _ ⟨rfl, rfl⟩
    refine bs_istore (pc' := 32) (lv' := [(0, _), (1, _), (2, _), (3, _), (4, _)]) dX6_writeKind_30 rfl rfl rfl ?_
    exact j32 c18
  · refine bs_iconst (v := 3) (pc' := 22) dX6_writeKind_21 (by decide) rfl ?_
    exact bs_iret dX6_writeKind_22 rfl ⟨by simp [wrK, c18], rfl⟩
theorem sm_rawKind {p i : Nat} (hA : mOk y A) (hI : mInv σ) (h : isPc σ p i) : mSp G h0 y A σ hs mX6_rawKind 1 [.int (nI p), .int (nI i)] (mQi G h0 y A σ hs (rwK σ p i)) := by
  have hc := (hI.cell h).2
  have hc : cO σ p i < 80 := hc
  refine bs_Sp.of (by decide) rfl ?_
  have j28 : σ 2 (zN (σ 9 p)) = 0 → mB G h0 y A σ hs mX6_rawKind 1 28 [(0, .ref y), (1, .int (nI p)), (2, .int (nI i))] [.int (oI (gr σ (cO σ p i) (nI p) true))] (mQi G h0 y A σ hs (rwK σ p i)) := by
    intro hf
    cases hg : gr σ (cO σ p i) (nI p) true with
    | none =>
      refine bs_iconst (v := (-1)) (pc' := 29) dX6_rawKind_28 (by decide) rfl ?_
      refine bs_icmp_ne (tgt := 36) (pc' := 32) dX6_rawKind_29 rfl rfl (fun c29 => absurd (show oI none = -1 from rfl) c29) (fun _ => ?_)
      refine bs_iconst (v := 1) (pc' := 33) dX6_rawKind_32 (by decide) rfl ?_
      refine bs_goto (tgt := 37) dX6_rawKind_33 rfl ?_
      exact bs_iret dX6_rawKind_37 rfl ⟨by simp [rwK, hf, hg], rfl⟩
    | some k =>
      have hk : k < zN (σ 4 (cO σ p i)) := grf_lt hg
      have hn := (hI.sz hc).2
      refine bs_iconst (v := (-1)) (pc' := 29) dX6_rawKind_28 (by decide) rfl ?_
      refine bs_icmp_ne (tgt := 36) (pc' := 32) dX6_rawKind_29 rfl rfl (fun _ => ?_) (fun c29 => absurd c29 (nI_ne_m1 (k := k) (by omega)))
      refine bs_iconst (v := 0) (pc' := 37) dX6_rawKind_36 (by decide) rfl ?_
      exact bs_iret dX6_rawKind_37 rfl ⟨by simp [rwK, hf, hg], rfl⟩
  refine bs_aload_n (pc' := 1) dX6_rawKind_0 rfl rfl rfl ?_
  refine bs_getf (pc' := 4) kf_X6_13 dX6_rawKind_1 mh_y rfl rfl ?_
  refine bs_aload_n (pc' := 5) dX6_rawKind_4 rfl rfl rfl ?_
  refine bs_getf (pc' := 8) kf_X6_32 dX6_rawKind_5 mh_y rfl rfl ?_
  refine bs_iload_n (pc' := 9) dX6_rawKind_8 rfl rfl ?_
  refine bm_ald (pc' := 10) dX6_rawKind_9 hA rfl rfl p rfl (hI.p60 h.1) rfl ?_
  refine bm_zld (pc' := 11) dX6_rawKind_10 hA (zN (σ 9 p)) (hI.owe h.1) (hI.ow10 h.1) rfl ?_
  refine bs_if_eq (tgt := 16) (pc' := 14) dX6_rawKind_11 rfl rfl (fun c11 => ?_) (fun c11 => ?_)
  · refine bs_aload_n (pc' := 17) dX6_rawKind_16 rfl rfl rfl ?_
    refine bs_aload_n (pc' := 18) dX6_rawKind_17 rfl rfl rfl ?_
    refine bs_iload_n (pc' := 19) dX6_rawKind_18 rfl rfl ?_
    refine bs_iload_n (pc' := 20) dX6_rawKind_19 rfl rfl ?_
    refine bs_callV (N := mX6_cellOf) (pc' := 23) dX6_rawKind_20 km_X6_75 ko_X6_cellOf (sm_cellOf hA hI h) mh_y rfl rfl rfl (by omega) (Nat.le_refl _) (Nat.le_refl _) rfl ?_
    rintro _ _ ⟨rfl, rfl⟩
    refine bs_iload_n (pc' := 24) dX6_rawKind_23 rfl rfl ?_
    refine bs_iconst (v := 1) (pc' := 25) dX6_rawKind_24 (by decide) rfl ?_
    refine bs_callV (N := mX6_granting) (pc' := 28) dX6_rawKind_25 km_X6_79 ko_X6_granting (sm_granting (w := true) hA hI hc) mh_y rfl rfl rfl (by omega) (Nat.le_refl _) (Nat.le_refl _) rfl ?_
    rintro _ _ ⟨rfl, rfl⟩
    exact j28 c11
  · refine bs_iconst (v := 3) (pc' := 15) dX6_rawKind_14 (by decide) rfl ?_
    exact bs_iret dX6_rawKind_15 rfl ⟨by simp [rwK, c11], rfl⟩
theorem sm_freeKind {p i : Nat} (hA : mOk y A) (hI : mInv σ) (h : isPc σ p i) : mSp G h0 y A σ hs mX6_freeKind 2 [.int (nI p), .int (nI i)] (mQi G h0 y A σ hs (frK σ p i)) := by
  have hc := (hI.cell h).2
  have hc : cO σ p i < 80 := hc
  refine bs_Sp.of (by decide) rfl ?_
  refine bs_aload_n (pc' := 1) dX6_freeKind_0 rfl rfl rfl ?_
  refine bs_iload_n (pc' := 2) dX6_freeKind_1 rfl rfl ?_
  refine bs_iload_n (pc' := 3) dX6_freeKind_2 rfl rfl ?_
  refine bs_callV (N := mX6_writeKind) (pc' := 6) dX6_freeKind_3 km_X6_90 ko_X6_writeKind (sm_writeKind hA hI h) mh_y rfl rfl rfl (by omega) (Nat.le_refl _) (Nat.le_refl _) rfl ?_
  rintro _ _ ⟨rfl, rfl⟩
  refine bs_istore_n (pc' := 7) (lv' := [(0, _), (1, _), (2, _), (3, _)]) dX6_freeKind_6 rfl rfl rfl ?_
  refine bs_iload_n (pc' := 8) dX6_freeKind_7 rfl rfl ?_
  refine bs_if_eq (tgt := 15) (pc' := 11) dX6_freeKind_8 rfl rfl (fun c8 => ?_) (fun c8 => ?_)
  · refine bs_aload_n (pc' := 16) dX6_freeKind_15 rfl rfl rfl ?_
    refine bs_aload_n (pc' := 17) dX6_freeKind_16 rfl rfl rfl ?_
    refine bs_iload_n (pc' := 18) dX6_freeKind_17 rfl rfl ?_
    refine bs_iload_n (pc' := 19) dX6_freeKind_18 rfl rfl ?_
    refine bs_callV (N := mX6_cellOf) (pc' := 22) dX6_freeKind_19 km_X6_75 ko_X6_cellOf (sm_cellOf hA hI h) mh_y rfl rfl rfl (by omega) (Nat.le_refl _) (Nat.le_refl _) rfl ?_
    rintro _ _ ⟨rfl, rfl⟩
    refine bs_iconst (v := 0) (pc' := 23) dX6_freeKind_22 (by decide) rfl ?_
    refine bs_iconst (v := 1) (pc' := 24) dX6_freeKind_23 (by decide) rfl ?_
    refine bs_callV (N := mX6_isGuarded) (pc' := 27) dX6_freeKind_24 km_X6_83 ko_X6_isGuarded (sm_isGuarded (j0 := 0) (all := true) hA hI hc (by omega)) mh_y rfl rfl rfl (by omega) (Nat.le_refl _) (Nat.le_refl _) rfl ?_
    rintro _ _ ⟨rfl, rfl⟩
    refine bs_if_eq (tgt := 34) (pc' := 30) dX6_freeKind_27 rfl rfl (fun c27 => ?_) (fun c27 => ?_)
    · refine bs_iconst (v := 0) (pc' := 35) dX6_freeKind_34 (by decide) rfl ?_
      exact bs_iret dX6_freeKind_35 rfl ⟨by first | (simp [frK, c8]; done) | (rw [bI_0] at c27; simp [frK, c8, c27]; done) | (rw [bI_n0] at c27; simp [frK, c8, c27]; done), rfl⟩
    · refine bs_iconst (v := 2) (pc' := 31) dX6_freeKind_30 (by decide) rfl ?_
      refine bs_goto (tgt := 35) dX6_freeKind_31 rfl ?_
      exact bs_iret dX6_freeKind_35 rfl ⟨by first | (simp [frK, c8]; done) | (rw [bI_0] at c27; simp [frK, c8, c27]; done) | (rw [bI_n0] at c27; simp [frK, c8, c27]; done), rfl⟩
  · refine bs_iload_n (pc' := 12) dX6_freeKind_11 rfl rfl ?_
    refine bs_goto (tgt := 35) dX6_freeKind_12 rfl ?_
    exact bs_iret dX6_freeKind_35 rfl ⟨by first | (simp [frK, c8]; done) | (rw [bI_0] at c27; simp [frK, c8, c27]; done) | (rw [bI_n0] at c27; simp [frK, c8, c27]; done), rfl⟩
theorem sm_doRead {p i : Nat} (hA : mOk y A) (hI : mInv σ) (h : isPc σ p i) : mSp G h0 y A σ hs mX6_doRead 1 [.int (nI p), .int (nI i)] (mQv G h0 y A (dRd σ p i) hs) := by
  have hc := (hI.cell h).2
  have hc : cO σ p i < 80 := hc
  have hn := (hI.sz hc).2
  have hsz := (hI.sz hc).1
  have hg := gs_le (σ := σ) (c := cO σ p i) (t := nI p) (w := false)
  unfold dRd
  refine bs_Sp.of (by decide) rfl ?_
  have loop : ∀ f j, j + f = zN (σ 4 (cO σ p i)) → gs (gr σ (cO σ p i) (nI p) false) ≤ j → mB G h0 y A (dis σ (12 * cO σ p i + gs (gr σ (cO σ p i) (nI p) false)) (12 * cO σ p i + j)) hs mX6_doRead 1 18 [(0, .ref y), (1, .int (nI p)), (2, .int (nI i)), (3, .int (nI (cO σ p i))), (4, .int (nI j))] [] (mQv G h0 y A (dis σ (12 * cO σ p i + gs (gr σ (cO σ p i) (nI p) false)) (12 * cO σ p i + zN (σ 4 (cO σ p i)))) hs) := by
    intro f
    generalize hlo : 12 * cO σ p i + gs (gr σ (cO σ p i) (nI p) false) = lo
    induction f with
    | zero =>
      intro j hj hgj
      refine bs_iload (pc' := 20) dX6_doRead_18 rfl rfl ?_
      refine bs_aload_n (pc' := 21) dX6_doRead_20 rfl rfl rfl ?_
      refine bs_getf (pc' := 24) kf_X6_20 dX6_doRead_21 mh_y rfl rfl ?_
      refine bs_iload_n (pc' := 25) dX6_doRead_24 rfl rfl ?_
      refine bm_ald (pc' := 26) dX6_doRead_25 hA rfl rfl (cO σ p i) rfl hc rfl ?_
      refine bs_icmp_ge (tgt := 63) (pc' := 29) dX6_doRead_26 rfl rfl (fun _ => ?_) (fun c26 => absurd (by rw [dis_n (by decide), hsz]; exact nI_le (by omega) (by omega)) c26)
      exact bs_vret dX6_doRead_63 rfl ⟨rfl, by rw [show j = zN (σ 4 (cO σ p i)) by omega]⟩
    | succ f ih =>
      intro j hj hgj
      have e6 : dis σ lo (12 * cO σ p i + j) 6 (12 * cO σ p i + j) = σ 6 (12 * cO σ p i + j) := dis_at (Nat.le_refl _)
      refine bs_iload (pc' := 20) dX6_doRead_18 rfl rfl ?_
      refine bs_aload_n (pc' := 21) dX6_doRead_20 rfl rfl rfl ?_
      refine bs_getf (pc' := 24) kf_X6_20 dX6_doRead_21 mh_y rfl rfl ?_
      refine bs_iload_n (pc' := 25) dX6_doRead_24 rfl rfl ?_
      refine bm_ald (pc' := 26) dX6_doRead_25 hA rfl rfl (cO σ p i) rfl hc rfl ?_
      refine bs_icmp_ge (tgt := 63) (pc' := 29) dX6_doRead_26 rfl rfl (fun c26 => absurd c26 (by rw [dis_n (by decide), hsz]; exact nI_ge (by omega) (by omega))) (fun _ => ?_)
      refine bs_aload_n (pc' := 30) dX6_doRead_29 rfl rfl rfl ?_
      refine bs_getf (pc' := 33) kf_X6_26 dX6_doRead_30 mh_y rfl rfl ?_
      refine bs_bipush (v := 12) (pc' := 35) dX6_doRead_33 (by decide) rfl ?_
      refine bs_iload_n (pc' := 36) dX6_doRead_35 rfl rfl ?_
      refine bs_imul (pc' := 37) dX6_doRead_36 rfl ?_
      refine bs_iload (pc' := 39) dX6_doRead_37 rfl rfl ?_
      refine bs_iadd (pc' := 40) dX6_doRead_39 rfl ?_
      refine bm_ald (pc' := 41) dX6_doRead_40 hA rfl rfl (12 * cO σ p i + j) (nI_12 _ j) (by show _ < 960; omega) rfl ?_
      refine bs_if_ne (tgt := 57) (pc' := 44) dX6_doRead_41 rfl rfl (fun c41 => ?_) (fun c41 => ?_)
      · rw [e6] at c41
        first | rw [dis_no c41] | rw [dis_y (by omega) c41]
        refine bs_iinc (pc' := 60) (lv' := [(0, _), (1, _), (2, _), (3, _), (4, _)]) dX6_doRead_57 rfl (nI_i1 j) rfl rfl rfl ?_
        refine bs_goto (tgt := 18) dX6_doRead_60 rfl ?_
        exact ih (j + 1) (by omega) (by omega)
      · refine bs_aload_n (pc' := 45) dX6_doRead_44 rfl rfl rfl ?_
        refine bs_getf (pc' := 48) kf_X6_26 dX6_doRead_45 mh_y rfl rfl ?_
        refine bs_bipush (v := 12) (pc' := 50) dX6_doRead_48 (by decide) rfl ?_
        refine bs_iload_n (pc' := 51) dX6_doRead_50 rfl rfl ?_
        refine bs_imul (pc' := 52) dX6_doRead_51 rfl ?_
        refine bs_iload (pc' := 54) dX6_doRead_52 rfl rfl ?_
        refine bs_iadd (pc' := 55) dX6_doRead_54 rfl ?_
        refine bs_iconst (v := 3) (pc' := 56) dX6_doRead_55 (by decide) rfl ?_
        refine bm_ast (pc' := 57) dX6_doRead_56 hA rfl rfl (12 * cO σ p i + j) (nI_12 _ j) (by show _ < 960; omega) rfl ?_
        rw [e6] at c41
        first | rw [dis_no c41] | rw [dis_y (by omega) c41]
        refine bs_iinc (pc' := 60) (lv' := [(0, _), (1, _), (2, _), (3, _), (4, _)]) dX6_doRead_57 rfl (nI_i1 j) rfl rfl rfl ?_
        refine bs_goto (tgt := 18) dX6_doRead_60 rfl ?_
        exact ih (j + 1) (by omega) (by omega)
  refine bs_aload_n (pc' := 1) dX6_doRead_0 rfl rfl rfl ?_
  refine bs_iload_n (pc' := 2) dX6_doRead_1 rfl rfl ?_
  refine bs_iload_n (pc' := 3) dX6_doRead_2 rfl rfl ?_
  refine bs_callV (N := mX6_cellOf) (pc' := 6) dX6_doRead_3 km_X6_75 ko_X6_cellOf (sm_cellOf hA hI h) mh_y rfl rfl rfl (by omega) (Nat.le_refl _) (Nat.le_refl _) rfl ?_
  rintro _ _ ⟨rfl, rfl⟩
  refine bs_istore_n (pc' := 7) (lv' := [(0, _), (1, _), (2, _), (3, _)]) dX6_doRead_6 rfl rfl rfl ?_
  refine bs_aload_n (pc' := 8) dX6_doRead_7 rfl rfl rfl ?_
  refine bs_iload_n (pc' := 9) dX6_doRead_8 rfl rfl ?_
  refine bs_iload_n (pc' := 10) dX6_doRead_9 rfl rfl ?_
  refine bs_iconst (v := 0) (pc' := 11) dX6_doRead_10 (by decide) rfl ?_
  refine bs_callV (N := mX6_granting) (pc' := 14) dX6_doRead_11 km_X6_79 ko_X6_granting (sm_granting (w := false) hA hI hc) mh_y rfl rfl rfl (by omega) (Nat.le_refl _) (Nat.le_refl _) rfl ?_
  rintro _ _ ⟨rfl, rfl⟩
  refine bs_iconst (v := 1) (pc' := 15) dX6_doRead_14 (by decide) rfl ?_
  refine bs_iadd (pc' := 16) dX6_doRead_15 rfl ?_
  refine bs_topi _ (oI_1 _) ?_
  refine bs_istore (pc' := 18) (lv' := [(0, _), (1, _), (2, _), (3, _), (4, _)]) dX6_doRead_16 rfl rfl rfl ?_
  have e := loop (zN (σ 4 (cO σ p i)) - gs (gr σ (cO σ p i) (nI p) false)) _ (by omega) (Nat.le_refl _)
  rw [dis_0] at e
  exact e
theorem sm_doWrite {p i k : Nat} (hA : mOk y A) (hI : mInv σ) (h : isPc σ p i) (hg : gr σ (cO σ p i) (nI p) true = some k) : mSp G h0 y A σ hs mX6_doWrite 1 [.int (nI p), .int (nI i)] (mQv G h0 y A (dWr σ p i) hs) := by
  have hc := (hI.cell h).2
  have hc : cO σ p i < 80 := hc
  have hk : k < zN (σ 4 (cO σ p i)) := grf_lt hg
  have e : dWr σ p i = ms_u σ 4 (cO σ p i) (nI (ab σ (cO σ p i) k)) := by unfold dWr; rw [hg]
  rw [e]
  refine bs_Sp.of (by decide) rfl ?_
  refine bs_aload_n (pc' := 1) dX6_doWrite_0 rfl rfl rfl ?_
  refine bs_iload_n (pc' := 2) dX6_doWrite_1 rfl rfl ?_
  refine bs_iload_n (pc' := 3) dX6_doWrite_2 rfl rfl ?_
  refine bs_callV (N := mX6_cellOf) (pc' := 6) dX6_doWrite_3 km_X6_75 ko_X6_cellOf (sm_cellOf hA hI h) mh_y rfl rfl rfl (by omega) (Nat.le_refl _) (Nat.le_refl _) rfl ?_
  rintro _ _ ⟨rfl, rfl⟩
  refine bs_istore_n (pc' := 7) (lv' := [(0, _), (1, _), (2, _), (3, _)]) dX6_doWrite_6 rfl rfl rfl ?_
  refine bs_aload_n (pc' := 8) dX6_doWrite_7 rfl rfl rfl ?_
  refine bs_getf (pc' := 11) kf_X6_20 dX6_doWrite_8 mh_y rfl rfl ?_
  refine bs_iload_n (pc' := 12) dX6_doWrite_11 rfl rfl ?_
  refine bs_aload_n (pc' := 13) dX6_doWrite_12 rfl rfl rfl ?_
  refine bs_iload_n (pc' := 14) dX6_doWrite_13 rfl rfl ?_
  refine bs_aload_n (pc' := 15) dX6_doWrite_14 rfl rfl rfl ?_
  refine bs_iload_n (pc' := 16) dX6_doWrite_15 rfl rfl ?_
  refine bs_iload_n (pc' := 17) dX6_doWrite_16 rfl rfl ?_
  refine bs_iconst (v := 1) (pc' := 18) dX6_doWrite_17 (by decide) rfl ?_
  refine bs_callV (N := mX6_granting) (pc' := 21) dX6_doWrite_18 km_X6_79 ko_X6_granting (sm_granting (w := true) hA hI hc) mh_y rfl rfl rfl (by omega) (Nat.le_refl _) (Nat.le_refl _) rfl ?_
  rintro _ _ ⟨rfl, rfl⟩
  rw [hg]
  refine bs_callV (N := mX6_above) (pc' := 24) dX6_doWrite_21 km_X6_87 ko_X6_above (sm_above hA hI hc hk) mh_y rfl rfl rfl (by omega) (Nat.le_refl _) (Nat.le_refl _) rfl ?_
  rintro _ _ ⟨rfl, rfl⟩
  refine bm_ast (pc' := 25) dX6_doWrite_24 hA rfl rfl (cO σ p i) rfl hc rfl ?_
  exact bs_vret dX6_doWrite_25 rfl ⟨rfl, rfl⟩
theorem sm_newPointer {al par : Int32} (hA : mOk y A) (e : σ 8 0 = nI (zN (σ 8 0))) (h : zN (σ 8 0) < 60) : mSp G h0 y A σ hs mX6_newPointer 0 [.int al, .int par] (mQi G h0 y A (nwP σ al par) hs (σ 8 0)) := by
  refine bs_Sp.of (by decide) rfl ?_
  refine bs_aload_n (pc' := 1) dX6_newPointer_0 rfl rfl rfl ?_
  refine bs_getf (pc' := 4) kf_X6_32 dX6_newPointer_1 mh_y rfl rfl ?_
  refine bs_aload_n (pc' := 5) dX6_newPointer_4 rfl rfl rfl ?_
  refine bs_getf (pc' := 8) kf_X6_64 dX6_newPointer_5 mh_y rfl rfl ?_
  refine bs_iload_n (pc' := 9) dX6_newPointer_8 rfl rfl ?_
  refine bm_ast (pc' := 10) dX6_newPointer_9 hA rfl rfl (zN (σ 8 0)) e h rfl ?_
  refine bs_aload_n (pc' := 11) dX6_newPointer_10 rfl rfl rfl ?_
  refine bs_getf (pc' := 14) kf_X6_35 dX6_newPointer_11 mh_y rfl rfl ?_
  refine bs_aload_n (pc' := 15) dX6_newPointer_14 rfl rfl rfl ?_
  refine bs_getf (pc' := 18) kf_X6_64 dX6_newPointer_15 mh_y rfl rfl ?_
  refine bs_iload_n (pc' := 19) dX6_newPointer_18 rfl rfl ?_
  refine bm_ast (pc' := 20) dX6_newPointer_19 hA rfl rfl (zN (σ 8 0)) e h rfl ?_
  refine bs_aload_n (pc' := 21) dX6_newPointer_20 rfl rfl rfl ?_
  refine bs_dup (pc' := 22) dX6_newPointer_21 rfl rfl ?_
  refine bs_getf (pc' := 25) kf_X6_64 dX6_newPointer_22 mh_y rfl rfl ?_
  refine bs_iconst (v := 1) (pc' := 26) dX6_newPointer_25 (by decide) rfl ?_
  refine bs_iadd (pc' := 27) dX6_newPointer_26 rfl ?_
  refine bm_put (pc' := 30) kf_X6_64 dX6_newPointer_27 rfl rfl rfl rfl ?_
  refine bs_aload_n (pc' := 31) dX6_newPointer_30 rfl rfl rfl ?_
  refine bs_getf (pc' := 34) kf_X6_64 dX6_newPointer_31 mh_y rfl rfl ?_
  refine bs_iconst (v := 1) (pc' := 35) dX6_newPointer_34 (by decide) rfl ?_
  refine bs_isub (pc' := 36) dX6_newPointer_35 rfl ?_
  exact bs_iret dX6_newPointer_36 rfl ⟨by show some (Value.int (σ 8 0 + 1 - 1)) = _; rw [Int32.add_sub_cancel], rfl⟩
theorem sm_insert {c pl : Nat} {t q g : Int32} (hA : mOk y A) (hc : c < 80) (hsz : σ 4 c = nI (zN (σ 4 c))) (hn : zN (σ 4 c) < 12) (hp : pl ≤ zN (σ 4 c)) : mSp G h0 y A σ hs mX6_insert 0 [.int (nI c), .int (nI pl), .int t, .int q, .int g] (mQv G h0 y A (ins σ c pl t q g) hs) := by
  unfold ins
  generalize hN : zN (σ 4 c) = n at hn hp hsz ⊢
  refine bs_Sp.of (by decide) rfl ?_
  have loop : ∀ f j, j = pl + f → j ≤ n → mB G h0 y A (sh3 σ (12 * c + j) (12 * c + n)) hs mX6_insert 0 13 [(0, .ref y), (1, .int (nI c)), (2, .int (nI pl)), (3, .int t), (4, .int q), (5, .int g), (6, .int (nI (12 * c + j)))] [] (mQv G h0 y A (ms_u (ms_u (ms_u (ms_u (sh3 σ (12 * c + pl) (12 * c + n)) 5 (12 * c + pl) t) 6 (12 * c + pl) q) 7 (12 * c + pl) g) 4 c (σ 4 c + 1)) hs) := by
    intro f
    induction f with
    | zero =>
      intro j hj hjn
      have hj' : j = pl := by omega
      subst hj'
      refine bs_iload (pc' := 15) dX6_insert_13 rfl rfl ?_
      refine bs_bipush (v := 12) (pc' := 17) dX6_insert_15 (by decide) rfl ?_
      refine bs_iload_n (pc' := 18) dX6_insert_17 rfl rfl ?_
      refine bs_imul (pc' := 19) dX6_insert_18 rfl ?_
      refine bs_iload_n (pc' := 20) dX6_insert_19 rfl rfl ?_
      refine bs_iadd (pc' := 21) dX6_insert_20 rfl ?_
      refine bs_icmp_le (tgt := 78) (pc' := 24) dX6_insert_21 rfl rfl (fun _ => ?_) (fun c21 => absurd (by rw [nI_12]; exact nI_le (Nat.le_refl _) (by omega)) c21)
      refine bs_aload_n (pc' := 79) dX6_insert_78 rfl rfl rfl ?_
      refine bs_getf (pc' := 82) kf_X6_23 dX6_insert_79 mh_y rfl rfl ?_
      refine bs_bipush (v := 12) (pc' := 84) dX6_insert_82 (by decide) rfl ?_
      refine bs_iload_n (pc' := 85) dX6_insert_84 rfl rfl ?_
      refine bs_imul (pc' := 86) dX6_insert_85 rfl ?_
      refine bs_iload_n (pc' := 87) dX6_insert_86 rfl rfl ?_
      refine bs_iadd (pc' := 88) dX6_insert_87 rfl ?_
      refine bs_iload_n (pc' := 89) dX6_insert_88 rfl rfl ?_
      refine bm_ast (pc' := 90) dX6_insert_89 hA rfl rfl (12 * c + j) (nI_12 c j) (by show _ < 960; omega) rfl ?_
      refine bs_aload_n (pc' := 91) dX6_insert_90 rfl rfl rfl ?_
      refine bs_getf (pc' := 94) kf_X6_26 dX6_insert_91 mh_y rfl rfl ?_
      refine bs_bipush (v := 12) (pc' := 96) dX6_insert_94 (by decide) rfl ?_
      refine bs_iload_n (pc' := 97) dX6_insert_96 rfl rfl ?_
      refine bs_imul (pc' := 98) dX6_insert_97 rfl ?_
      refine bs_iload_n (pc' := 99) dX6_insert_98 rfl rfl ?_
      refine bs_iadd (pc' := 100) dX6_insert_99 rfl ?_
      refine bs_iload (pc' := 102) dX6_insert_100 rfl rfl ?_
      refine bm_ast (pc' := 103) dX6_insert_102 hA rfl rfl (12 * c + j) (nI_12 c j) (by show _ < 960; omega) rfl ?_
      refine bs_aload_n (pc' := 104) dX6_insert_103 rfl rfl rfl ?_
      refine bs_getf (pc' := 107) kf_X6_29 dX6_insert_104 mh_y rfl rfl ?_
      refine bs_bipush (v := 12) (pc' := 109) dX6_insert_107 (by decide) rfl ?_
      refine bs_iload_n (pc' := 110) dX6_insert_109 rfl rfl ?_
      refine bs_imul (pc' := 111) dX6_insert_110 rfl ?_
      refine bs_iload_n (pc' := 112) dX6_insert_111 rfl rfl ?_
      refine bs_iadd (pc' := 113) dX6_insert_112 rfl ?_
      refine bs_iload (pc' := 115) dX6_insert_113 rfl rfl ?_
      refine bm_ast (pc' := 116) dX6_insert_115 hA rfl rfl (12 * c + j) (nI_12 c j) (by show _ < 960; omega) rfl ?_
      refine bs_aload_n (pc' := 117) dX6_insert_116 rfl rfl rfl ?_
      refine bs_getf (pc' := 120) kf_X6_20 dX6_insert_117 mh_y rfl rfl ?_
      refine bs_iload_n (pc' := 121) dX6_insert_120 rfl rfl ?_
      refine bs_dup2 (pc' := 122) dX6_insert_121 rfl rfl rfl ?_
      refine bm_ald (pc' := 123) dX6_insert_122 hA rfl rfl c rfl hc rfl ?_
      refine bs_iconst (v := 1) (pc' := 124) dX6_insert_123 (by decide) rfl ?_
      refine bs_iadd (pc' := 125) dX6_insert_124 rfl ?_
      refine bm_ast (pc' := 126) dX6_insert_125 hA rfl rfl c rfl hc rfl ?_
      exact bs_vret dX6_insert_126 rfl ⟨rfl, rfl⟩
    | succ f ih =>
      intro j hj hjn
      obtain ⟨j', rfl⟩ : ∃ j', j = j' + 1 := ⟨j - 1, by omega⟩
      have e5 : ∀ k, k = 5 ∨ k = 6 ∨ k = 7 → sh3 σ (12 * c + (j' + 1)) (12 * c + n) k (12 * c + j') = σ k (12 * c + j') := fun k hk => by
        unfold sh3
        rw [if_pos hk]
        exact shf_lo (by omega)
      have ei : nI (12 * c + (j' + 1)) - 1 = nI (12 * c + j') := nI_pred (12 * c + j')
      refine bs_iload (pc' := 15) dX6_insert_13 rfl rfl ?_
      refine bs_bipush (v := 12) (pc' := 17) dX6_insert_15 (by decide) rfl ?_
      refine bs_iload_n (pc' := 18) dX6_insert_17 rfl rfl ?_
      refine bs_imul (pc' := 19) dX6_insert_18 rfl ?_
      refine bs_iload_n (pc' := 20) dX6_insert_19 rfl rfl ?_
      refine bs_iadd (pc' := 21) dX6_insert_20 rfl ?_
      refine bs_icmp_le (tgt := 78) (pc' := 24) dX6_insert_21 rfl rfl (fun c21 => absurd c21 (by rw [nI_12]; exact nI_ge (by omega) (by omega))) (fun _ => ?_)
      refine bs_aload_n (pc' := 25) dX6_insert_24 rfl rfl rfl ?_
      refine bs_getf (pc' := 28) kf_X6_23 dX6_insert_25 mh_y rfl rfl ?_
      refine bs_iload (pc' := 30) dX6_insert_28 rfl rfl ?_
      refine bs_aload_n (pc' := 31) dX6_insert_30 rfl rfl rfl ?_
      refine bs_getf (pc' := 34) kf_X6_23 dX6_insert_31 mh_y rfl rfl ?_
      refine bs_iload (pc' := 36) dX6_insert_34 rfl rfl ?_
      refine bs_iconst (v := 1) (pc' := 37) dX6_insert_36 (by decide) rfl ?_
      refine bs_isub (pc' := 38) dX6_insert_37 rfl ?_
      refine bm_ald (pc' := 39) dX6_insert_38 hA rfl rfl (12 * c + j') ei (by show _ < 960; omega) rfl ?_
      refine bm_ast (pc' := 40) dX6_insert_39 hA rfl rfl (12 * c + (j' + 1)) rfl (by show _ < 960; omega) rfl ?_
      refine bs_aload_n (pc' := 41) dX6_insert_40 rfl rfl rfl ?_
      refine bs_getf (pc' := 44) kf_X6_26 dX6_insert_41 mh_y rfl rfl ?_
      refine bs_iload (pc' := 46) dX6_insert_44 rfl rfl ?_
      refine bs_aload_n (pc' := 47) dX6_insert_46 rfl rfl rfl ?_
      refine bs_getf (pc' := 50) kf_X6_26 dX6_insert_47 mh_y rfl rfl ?_
      refine bs_iload (pc' := 52) dX6_insert_50 rfl rfl ?_
      refine bs_iconst (v := 1) (pc' := 53) dX6_insert_52 (by decide) rfl ?_
      refine bs_isub (pc' := 54) dX6_insert_53 rfl ?_
      refine bm_ald (pc' := 55) dX6_insert_54 hA rfl rfl (12 * c + j') ei (by show _ < 960; omega) rfl ?_
      refine bm_ast (pc' := 56) dX6_insert_55 hA rfl rfl (12 * c + (j' + 1)) rfl (by show _ < 960; omega) rfl ?_
      refine bs_aload_n (pc' := 57) dX6_insert_56 rfl rfl rfl ?_
      refine bs_getf (pc' := 60) kf_X6_29 dX6_insert_57 mh_y rfl rfl ?_
      refine bs_iload (pc' := 62) dX6_insert_60 rfl rfl ?_
      refine bs_aload_n (pc' := 63) dX6_insert_62 rfl rfl rfl ?_
      refine bs_getf (pc' := 66) kf_X6_29 dX6_insert_63 mh_y rfl rfl ?_
      refine bs_iload (pc' := 68) dX6_insert_66 rfl rfl ?_
      refine bs_iconst (v := 1) (pc' := 69) dX6_insert_68 (by decide) rfl ?_
      refine bs_isub (pc' := 70) dX6_insert_69 rfl ?_
      refine bm_ald (pc' := 71) dX6_insert_70 hA rfl rfl (12 * c + j') ei (by show _ < 960; omega) rfl ?_
      refine bm_ast (pc' := 72) dX6_insert_71 hA rfl rfl (12 * c + (j' + 1)) rfl (by show _ < 960; omega) rfl ?_
      refine bs_iinc (pc' := 75) (lv' := [(0, _), (1, _), (2, _), (3, _), (4, _), (5, _), (6, _)]) dX6_insert_72 rfl ((nI_m1 _).trans ei) rfl rfl rfl ?_
      refine bs_goto (tgt := 13) dX6_insert_75 rfl ?_
      have e := ih j' (by omega) (by omega)
      have e3 := sh3_s (σ := σ) (lo := 12 * c + j') (hi := 12 * c + n) (by omega)
      rw [← e3] at e
      have e4 : ms_u (ms_u (ms_u (sh3 σ (12 * c + (j' + 1)) (12 * c + n)) 5 (12 * c + (j' + 1)) (sh3 σ (12 * c + (j' + 1)) (12 * c + n) 5 (12 * c + j'))) 6 (12 * c + (j' + 1)) (sh3 σ (12 * c + (j' + 1)) (12 * c + n) 6 (12 * c + j'))) 7 (12 * c + (j' + 1)) (sh3 σ (12 * c + (j' + 1)) (12 * c + n) 7 (12 * c + j')) = ms_u (ms_u (ms_u (sh3 σ (12 * c + j' + 1) (12 * c + n)) 5 (12 * c + j' + 1) (σ 5 (12 * c + j'))) 6 (12 * c + j' + 1) (σ 6 (12 * c + j'))) 7 (12 * c + j' + 1) (σ 7 (12 * c + j')) := by
        rw [e5 5 (by decide), e5 6 (by decide), e5 7 (by decide)]
        rfl
      rw [← e4] at e
      exact e
  refine bs_bipush (v := 12) (pc' := 2) dX6_insert_0 (by decide) rfl ?_
  refine bs_iload_n (pc' := 3) dX6_insert_2 rfl rfl ?_
  refine bs_imul (pc' := 4) dX6_insert_3 rfl ?_
  refine bs_aload_n (pc' := 5) dX6_insert_4 rfl rfl rfl ?_
  refine bs_getf (pc' := 8) kf_X6_20 dX6_insert_5 mh_y rfl rfl ?_
  refine bs_iload_n (pc' := 9) dX6_insert_8 rfl rfl ?_
  refine bm_ald (pc' := 10) dX6_insert_9 hA rfl rfl c rfl hc rfl ?_
  refine bs_iadd (pc' := 11) dX6_insert_10 rfl ?_
  refine bs_topi (nI (12 * c + n)) (by rw [hsz, nI_12]) ?_
  refine bs_istore (pc' := 13) (lv' := [(0, _), (1, _), (2, _), (3, _), (4, _), (5, _), (6, _)]) dX6_insert_11 rfl rfl rfl ?_
  have e := loop (n - pl) n (by omega) (Nat.le_refl _)
  rw [sh3_0] at e
  exact e
end Model2
