section Model7
variable {G : GG} {h0 : Hp} {y : Nat} {A : Nat → Nat} {σ : MS} {hs : Int64}
theorem sw_in {c : Int32} (h : ¬ (c.toInt < 97 ∨ 119 < c.toInt)) : ∃ k, k < 23 ∧ c = nI (97 + k) := by
  refine ⟨c.toInt.toNat - 97, by omega, ?_⟩
  apply Int32.toInt_inj.mp
  rw [nI_toInt (by omega)]
  omega
theorem sw_out {c : Int32} (h : c.toInt < 97 ∨ 119 < c.toInt) (k : Int32) (h1 : 97 ≤ k.toInt) (h2 : k.toInt ≤ 119) : ¬ c = k := fun e => by
  subst e
  omega
theorem mny_out {c : Int32} (h : c.toInt < 97 ∨ 119 < c.toInt) : mny c = none := by
  have q := sw_out h
  unfold mny
  rw [if_neg (by rintro (e | e | e | e) <;> exact q _ (by decide) (by decide) e), if_neg (q _ (by decide) (by decide)), if_neg (by rintro (e | e) <;> exact q _ (by decide) (by decide) e), if_neg (by rintro (e | e) <;> exact q _ (by decide) (by decide) e)]
theorem sm_manyOf {h : Hp} {c : Int32} : bs_Sp G mX6_manyOf 0 0 0 [.int c] h (fun v h' => v = some (.int (oI (mny c))) ∧ h' = h) := by
  refine bs_Sp.of (by decide) rfl ?_
  refine bs_iload_n (pc' := 1) dX6_manyOf_0 rfl rfl ?_
  by_cases hr : c.toInt < 97 ∨ 119 < c.toInt
  · refine bs_switchOut (tgt := 116) dX6_manyOf_1 hr rfl ?_
    have e := mny_out hr
    refine bs_iconst (v := (-1)) (pc' := 117) dX6_manyOf_116 (by decide) rfl ?_
    exact bs_iret dX6_manyOf_117 rfl ⟨by rw [e]; rfl, rfl⟩
  · obtain ⟨k, hk, rfl⟩ := sw_in hr
    match k, hk with
    | 0, _ =>
      refine bs_switchIn (off := 111) (tgt := 112) dX6_manyOf_1 (by decide) (by decide) (by decide) rfl ?_
      refine bs_iconst (v := 1) (pc' := 113) dX6_manyOf_112 (by decide) rfl ?_
      exact bs_iret dX6_manyOf_113 rfl ⟨by decide, rfl⟩
    | 1, _ =>
      refine bs_switchIn (off := 115) (tgt := 116) dX6_manyOf_1 (by decide) (by decide) (by decide) rfl ?_
      refine bs_iconst (v := (-1)) (pc' := 117) dX6_manyOf_116 (by decide) rfl ?_
      exact bs_iret dX6_manyOf_117 rfl ⟨by decide, rfl⟩
    | 2, _ =>
      refine bs_switchIn (off := 115) (tgt := 116) dX6_manyOf_1 (by decide) (by decide) (by decide) rfl ?_
      refine bs_iconst (v := (-1)) (pc' := 117) dX6_manyOf_116 (by decide) rfl ?_
      exact bs_iret dX6_manyOf_117 rfl ⟨by decide, rfl⟩
    | 3, _ =>
      refine bs_switchIn (off := 115) (tgt := 116) dX6_manyOf_1 (by decide) (by decide) (by decide) rfl ?_
      refine bs_iconst (v := (-1)) (pc' := 117) dX6_manyOf_116 (by decide) rfl ?_
      exact bs_iret dX6_manyOf_117 rfl ⟨by decide, rfl⟩
    | 4, _ =>
      refine bs_switchIn (off := 113) (tgt := 114) dX6_manyOf_1 (by decide) (by decide) (by decide) rfl ?_
      refine bs_iconst (v := 0) (pc' := 115) dX6_manyOf_114 (by decide) rfl ?_
      exact bs_iret dX6_manyOf_115 rfl ⟨by decide, rfl⟩
    | 5, _ =>
      refine bs_switchIn (off := 111) (tgt := 112) dX6_manyOf_1 (by decide) (by decide) (by decide) rfl ?_
      refine bs_iconst (v := 1) (pc' := 113) dX6_manyOf_112 (by decide) rfl ?_
      exact bs_iret dX6_manyOf_113 rfl ⟨by decide, rfl⟩
    | 6, _ =>
      refine bs_switchIn (off := 115) (tgt := 116) dX6_manyOf_1 (by decide) (by decide) (by decide) rfl ?_
      refine bs_iconst (v := (-1)) (pc' := 117) dX6_manyOf_116 (by decide) rfl ?_
      exact bs_iret dX6_manyOf_117 rfl ⟨by decide, rfl⟩
    | 7, _ =>
      refine bs_switchIn (off := 115) (tgt := 116) dX6_manyOf_1 (by decide) (by decide) (by decide) rfl ?_
      refine bs_iconst (v := (-1)) (pc' := 117) dX6_manyOf_116 (by decide) rfl ?_
      exact bs_iret dX6_manyOf_117 rfl ⟨by decide, rfl⟩
    | 8, _ =>
      refine bs_switchIn (off := 115) (tgt := 116) dX6_manyOf_1 (by decide) (by decide) (by decide) rfl ?_
      refine bs_iconst (v := (-1)) (pc' := 117) dX6_manyOf_116 (by decide) rfl ?_
      exact bs_iret dX6_manyOf_117 rfl ⟨by decide, rfl⟩
    | 9, _ =>
      refine bs_switchIn (off := 115) (tgt := 116) dX6_manyOf_1 (by decide) (by decide) (by decide) rfl ?_
      refine bs_iconst (v := (-1)) (pc' := 117) dX6_manyOf_116 (by decide) rfl ?_
      exact bs_iret dX6_manyOf_117 rfl ⟨by decide, rfl⟩
    | 10, _ =>
      refine bs_switchIn (off := 115) (tgt := 116) dX6_manyOf_1 (by decide) (by decide) (by decide) rfl ?_
      refine bs_iconst (v := (-1)) (pc' := 117) dX6_manyOf_116 (by decide) rfl ?_
      exact bs_iret dX6_manyOf_117 rfl ⟨by decide, rfl⟩
    | 11, _ =>
      refine bs_switchIn (off := 113) (tgt := 114) dX6_manyOf_1 (by decide) (by decide) (by decide) rfl ?_
      refine bs_iconst (v := 0) (pc' := 115) dX6_manyOf_114 (by decide) rfl ?_
      exact bs_iret dX6_manyOf_115 rfl ⟨by decide, rfl⟩
    | 12, _ =>
      refine bs_switchIn (off := 107) (tgt := 108) dX6_manyOf_1 (by decide) (by decide) (by decide) rfl ?_
      refine bs_iconst (v := 3) (pc' := 109) dX6_manyOf_108 (by decide) rfl ?_
      exact bs_iret dX6_manyOf_109 rfl ⟨by decide, rfl⟩
    | 13, _ =>
      refine bs_switchIn (off := 115) (tgt := 116) dX6_manyOf_1 (by decide) (by decide) (by decide) rfl ?_
      refine bs_iconst (v := (-1)) (pc' := 117) dX6_manyOf_116 (by decide) rfl ?_
      exact bs_iret dX6_manyOf_117 rfl ⟨by decide, rfl⟩
    | 14, _ =>
      refine bs_switchIn (off := 115) (tgt := 116) dX6_manyOf_1 (by decide) (by decide) (by decide) rfl ?_
      refine bs_iconst (v := (-1)) (pc' := 117) dX6_manyOf_116 (by decide) rfl ?_
      exact bs_iret dX6_manyOf_117 rfl ⟨by decide, rfl⟩
    | 15, _ =>
      refine bs_switchIn (off := 107) (tgt := 108) dX6_manyOf_1 (by decide) (by decide) (by decide) rfl ?_
      refine bs_iconst (v := 3) (pc' := 109) dX6_manyOf_108 (by decide) rfl ?_
      exact bs_iret dX6_manyOf_109 rfl ⟨by decide, rfl⟩
    | 16, _ =>
      refine bs_switchIn (off := 115) (tgt := 116) dX6_manyOf_1 (by decide) (by decide) (by decide) rfl ?_
      refine bs_iconst (v := (-1)) (pc' := 117) dX6_manyOf_116 (by decide) rfl ?_
      exact bs_iret dX6_manyOf_117 rfl ⟨by decide, rfl⟩
    | 17, _ =>
      refine bs_switchIn (off := 109) (tgt := 110) dX6_manyOf_1 (by decide) (by decide) (by decide) rfl ?_
      refine bs_iconst (v := 2) (pc' := 111) dX6_manyOf_110 (by decide) rfl ?_
      exact bs_iret dX6_manyOf_111 rfl ⟨by decide, rfl⟩
    | 18, _ =>
      refine bs_switchIn (off := 107) (tgt := 108) dX6_manyOf_1 (by decide) (by decide) (by decide) rfl ?_
      refine bs_iconst (v := 3) (pc' := 109) dX6_manyOf_108 (by decide) rfl ?_
      exact bs_iret dX6_manyOf_109 rfl ⟨by decide, rfl⟩
    | 19, _ =>
      refine bs_switchIn (off := 115) (tgt := 116) dX6_manyOf_1 (by decide) (by decide) (by decide) rfl ?_
      refine bs_iconst (v := (-1)) (pc' := 117) dX6_manyOf_116 (by decide) rfl ?_
      exact bs_iret dX6_manyOf_117 rfl ⟨by decide, rfl⟩
    | 20, _ =>
      refine bs_switchIn (off := 115) (tgt := 116) dX6_manyOf_1 (by decide) (by decide) (by decide) rfl ?_
      refine bs_iconst (v := (-1)) (pc' := 117) dX6_manyOf_116 (by decide) rfl ?_
      exact bs_iret dX6_manyOf_117 rfl ⟨by decide, rfl⟩
    | 21, _ =>
      refine bs_switchIn (off := 115) (tgt := 116) dX6_manyOf_1 (by decide) (by decide) (by decide) rfl ?_
      refine bs_iconst (v := (-1)) (pc' := 117) dX6_manyOf_116 (by decide) rfl ?_
      exact bs_iret dX6_manyOf_117 rfl ⟨by decide, rfl⟩
    | 22, _ =>
      refine bs_switchIn (off := 107) (tgt := 108) dX6_manyOf_1 (by decide) (by decide) (by decide) rfl ?_
      refine bs_iconst (v := 3) (pc' := 109) dX6_manyOf_108 (by decide) rfl ?_
      exact bs_iret dX6_manyOf_109 rfl ⟨by decide, rfl⟩
    | k + 23, h => exact absurd h (by omega)
theorem sm_takesCommand (hA : mOk y A) (h : pOk σ) (ha : pA σ < pN σ) : mSp G h0 y A σ hs mX6_takesCommand 4 [] (mQi G h0 y A (t_cmd σ).2 hs (bI (t_cmd σ).1)) := by
  have hn := h.n
  have h22 := h.2.1
  have h21 := h.2.2.2.1
  have hcm : zN (σ 21 0) < 60 := by have := h.2.2.2.2; omega
  refine bs_Sp.of (by decide) rfl ?_
  have j12 : mB G h0 y A σ hs mX6_takesCommand 4 12 [(0, .ref y)] [.int (oI (mny (σ 17 (pA σ))))] (mQi G h0 y A (t_cmd σ).2 hs (bI (t_cmd σ).1)) := by
    cases hm : mny (σ 17 (pA σ)) with
    | none =>
      have e : t_cmd σ = (false, σ) := by rw [t_cmd, hm]
      refine bs_istore_n (pc' := 13) (lv' := [(0, _), (1, _)]) dX6_takesCommand_12 rfl rfl rfl ?_
      refine bs_iload_n (pc' := 14) dX6_takesCommand_13 rfl rfl ?_
      refine bs_iconst (v := (-1)) (pc' := 15) dX6_takesCommand_14 (by decide) rfl ?_
      refine bs_icmp_ne (tgt := 20) (pc' := 18) dX6_takesCommand_15 rfl rfl (fun c15 => absurd (show oI none = -1 from rfl) c15) (fun _ => ?_)
      refine bs_iconst (v := 0) (pc' := 19) dX6_takesCommand_18 (by decide) rfl ?_
      exact bs_zret dX6_takesCommand_19 rfl (by decide) ⟨by rw [e]; rfl, by rw [e]⟩
    | some m =>
      have hm3 := mny_3 hm
      obtain ⟨b1, b2, b3⟩ := beg_ok h ha
      have e : t_cmd σ = if (t_nums (3 * zN (σ 21 0)) m 0 (t_beg σ)).1 = true then t_end (t_bl (t_nums (3 * zN (σ 21 0)) m 0 (t_beg σ)).2) else (false, (t_nums (3 * zN (σ 21 0)) m 0 (t_beg σ)).2) := by rw [t_cmd, hm]
      have loop : ∀ f k τ, k + f = m → pOk τ → τ 21 = σ 21 → pA σ + 1 ≤ pA τ → t_nums (3 * zN (σ 21 0)) m 0 (t_beg σ) = t_nums (3 * zN (σ 21 0)) f k τ → mB G h0 y A τ hs mX6_takesCommand 4 50 [(0, .ref y), (1, .int (nI m)), (2, .int (nI k))] [] (mQi G h0 y A (t_cmd σ).2 hs (bI (t_cmd σ).1)) := by
        intro f
        induction f with
        | zero =>
          intro k τ hk hp e21 hat hnum
          have hnum : t_nums (3 * zN (σ 21 0)) m 0 (t_beg σ) = (true, τ) := hnum
          rw [hnum, if_pos rfl] at e
          obtain ⟨l1, l2, l3⟩ := pOk_bl hp
          have e21' : t_bl τ 21 = σ 21 := (l3 21 (by decide)).trans e21
          have hx : isAt (t_bl τ) (pA (t_bl τ)) 59 59 = true → pOk (ms_u (sAt (t_bl τ) (pA (t_bl τ) + 1)) 21 0 (t_bl τ 21 0 + 1)) ∧ ms_u (ms_u (t_bl τ) 22 0 (t_bl τ 22 0 + 1)) 21 0 (t_bl τ 21 0 + 1) = ms_u (sAt (t_bl τ) (pA (t_bl τ) + 1)) 21 0 (t_bl τ 21 0 + 1) := fun hi => by
            have hlt : pA (t_bl τ) < pN (t_bl τ) := by
              unfold isAt at hi
              rw [Bool.and_eq_true, decide_eq_true_eq] at hi
              exact hi.1
            have hn2 := l1.n
            have hz := zN_s (x := t_bl τ 21 0) (b := 120) ⟨l1.2.2.2.1, by have := l1.2.2.2.2; omega⟩ (by decide)
            have eA : pA (ms_u (sAt (t_bl τ) (pA (t_bl τ) + 1)) 21 0 (t_bl τ 21 0 + 1)) = pA (t_bl τ) + 1 := sAt_A (σ := t_bl τ) (by omega)
            have f21 : ms_u (sAt (t_bl τ) (pA (t_bl τ) + 1)) 21 0 (t_bl τ 21 0 + 1) 21 0 = t_bl τ 21 0 + 1 := rfl
            refine ⟨⟨mInv_u (mInv_u l1.1 (by decide)) (by decide), by rw [eA]; rfl, by rw [eA]; exact hlt, ?_, ?_⟩, ?_⟩
            · rw [f21, hz.2]; exact hz.1
            · rw [f21, hz.2, eA, e21']; have := h.2.2.2.2; omega
            · rw [sAt, ← nI_1, ← l1.2.1]
          refine bs_iload_n (pc' := 51) dX6_takesCommand_50 rfl rfl ?_
          refine bs_iload_n (pc' := 52) dX6_takesCommand_51 rfl rfl ?_
          refine bs_icmp_ge (tgt := 78) (pc' := 55) dX6_takesCommand_52 rfl rfl (fun _ => ?_) (fun c52 => absurd (nI_le (by omega) (by omega)) c52)
          refine bs_aload_n (pc' := 79) dX6_takesCommand_78 rfl rfl rfl ?_
          refine bs_callV (N := mX6_blanks) (pc' := 82) dX6_takesCommand_79 km_X6_165 ko_X6_blanks (sm_blanks hA hp) mh_y rfl rfl rfl (by omega) (Nat.le_refl _) (Nat.le_refl _) rfl ?_
          rintro _ _ ⟨rfl, rfl⟩
          refine bs_aload_n (pc' := 83) dX6_takesCommand_82 rfl rfl rfl ?_
          refine bs_bipush (v := 59) (pc' := 85) dX6_takesCommand_83 (by decide) rfl ?_
          refine bs_bipush (v := 59) (pc' := 87) dX6_takesCommand_85 (by decide) rfl ?_
          refine bs_callV (N := mX6_isAt) (pc' := 90) dX6_takesCommand_87 km_X6_162 ko_X6_isAt (sm_isAt hA l1) mh_y rfl rfl rfl (by omega) (Nat.le_refl _) (Nat.le_refl _) rfl ?_
          rintro _ _ ⟨rfl, rfl⟩
          refine bs_if_ne (tgt := 95) (pc' := 93) dX6_takesCommand_90 rfl rfl (fun c90 => ?_) (fun c90 => ?_)
          · rw [bI_n0] at c90
            obtain ⟨x1, x2⟩ := hx c90
            have e2 : t_cmd σ = (true, t_bl (ms_u (sAt (t_bl τ) (pA (t_bl τ) + 1)) 21 0 (t_bl τ 21 0 + 1))) := by rw [e, t_end, if_pos c90]
            refine bs_aload_n (pc' := 96) dX6_takesCommand_95 rfl rfl rfl ?_
            refine bs_dup (pc' := 97) dX6_takesCommand_96 rfl rfl ?_
            refine bs_getf (pc' := 100) kf_X6_159 dX6_takesCommand_97 mh_y rfl rfl ?_
            refine bs_iconst (v := 1) (pc' := 101) dX6_takesCommand_100 (by decide) rfl ?_
            refine bs_iadd (pc' := 102) dX6_takesCommand_101 rfl ?_
            refine bm_put (pc' := 105) kf_X6_159 dX6_takesCommand_102 rfl rfl rfl rfl ?_
            refine bs_aload_n (pc' := 106) dX6_takesCommand_105 rfl rfl rfl ?_
            refine bs_dup (pc' := 107) dX6_takesCommand_106 rfl rfl ?_
            refine bs_getf (pc' := 110) kf_X6_171 dX6_takesCommand_107 mh_y rfl rfl ?_
            refine bs_iconst (v := 1) (pc' := 111) dX6_takesCommand_110 (by decide) rfl ?_
            refine bs_iadd (pc' := 112) dX6_takesCommand_111 rfl ?_
            refine bm_put (pc' := 115) kf_X6_171 dX6_takesCommand_112 rfl rfl rfl rfl ?_
            have x3 : ms_u (ms_u (t_bl τ) 22 0 (t_bl τ 22 0 + 1)) 21 0 (ms_u (t_bl τ) 22 0 (t_bl τ 22 0 + 1) 21 0 + 1) = ms_u (sAt (t_bl τ) (pA (t_bl τ) + 1)) 21 0 (t_bl τ 21 0 + 1) := x2
            rw [x3]
            refine bs_aload_n (pc' := 116) dX6_takesCommand_115 rfl rfl rfl ?_
            refine bs_callV (N := mX6_blanks) (pc' := 119) dX6_takesCommand_116 km_X6_165 ko_X6_blanks (sm_blanks hA x1) mh_y rfl rfl rfl (by omega) (Nat.le_refl _) (Nat.le_refl _) rfl ?_
            rintro _ _ ⟨rfl, rfl⟩
            refine bs_iconst (v := 1) (pc' := 120) dX6_takesCommand_119 (by decide) rfl ?_
            exact bs_zret dX6_takesCommand_120 rfl (by decide) ⟨by rw [e2]; rfl, by rw [e2]⟩
          · refine bs_iconst (v := 0) (pc' := 94) dX6_takesCommand_93 (by decide) rfl ?_
            have e2 : t_cmd σ = (false, t_bl τ) := by rw [e, t_end, if_neg (by rw [bI_0] at c90; rw [c90]; decide)]
            exact bs_zret dX6_takesCommand_94 rfl (by decide) ⟨by rw [e2]; rfl, by rw [e2]⟩
        | succ f ih =>
          intro k τ hk hp e21 hat hnum
          obtain ⟨n1, n2, n3⟩ := num_ok (to := 3 * zN (σ 21 0) + k) hp
          have e3 : 3 * τ 21 0 + nI k = nI (3 * zN (σ 21 0) + k) := by
            rw [e21, h21, show (3 : Int32) = nI 3 from rfl, pk_mul, nI_add, zN_nI (by omega)]
          refine bs_iload_n (pc' := 51) dX6_takesCommand_50 rfl rfl ?_
          refine bs_iload_n (pc' := 52) dX6_takesCommand_51 rfl rfl ?_
          refine bs_icmp_ge (tgt := 78) (pc' := 55) dX6_takesCommand_52 rfl rfl (fun c52 => absurd c52 (nI_ge (by omega) (by omega))) (fun _ => ?_)
          refine bs_aload_n (pc' := 56) dX6_takesCommand_55 rfl rfl rfl ?_
          refine bs_iconst (v := 3) (pc' := 57) dX6_takesCommand_56 (by decide) rfl ?_
          refine bs_aload_n (pc' := 58) dX6_takesCommand_57 rfl rfl rfl ?_
          refine bs_getf (pc' := 61) kf_X6_171 dX6_takesCommand_58 mh_y rfl rfl ?_
          refine bs_imul (pc' := 62) dX6_takesCommand_61 rfl ?_
          refine bs_iload_n (pc' := 63) dX6_takesCommand_62 rfl rfl ?_
          refine bs_iadd (pc' := 64) dX6_takesCommand_63 rfl ?_
          refine bs_topi _ e3 ?_
          refine bs_callV (N := mX6_takesNumber) (pc' := 67) dX6_takesCommand_64 km_X6_174 ko_X6_takesNumber (sm_takesNumber hA hp (by omega)) mh_y rfl rfl rfl (by omega) (Nat.le_refl _) (Nat.le_refl _) rfl ?_
          rintro _ _ ⟨rfl, rfl⟩
          refine bs_if_ne (tgt := 72) (pc' := 70) dX6_takesCommand_67 rfl rfl (fun c67 => ?_) (fun c67 => ?_)
          · refine bs_iinc (pc' := 75) (lv' := [(0, _), (1, _), (2, _)]) dX6_takesCommand_72 rfl (nI_i1 k) rfl rfl rfl ?_
            refine bs_goto (tgt := 50) dX6_takesCommand_75 rfl ?_
            exact ih (k + 1) _ (by omega) n1 ((n3 21 (by decide) (by decide)).trans e21) (by omega) (by rw [hnum, t_nums, if_pos (by rw [bI_n0] at c67; exact c67)])
          · refine bs_iconst (v := 0) (pc' := 71) dX6_takesCommand_70 (by decide) rfl ?_
            have e2 : t_cmd σ = (false, (t_num τ (3 * zN (σ 21 0) + k)).2) := by
              have e4 : t_nums (3 * zN (σ 21 0)) (f + 1) k τ = (false, (t_num τ (3 * zN (σ 21 0) + k)).2) := by rw [t_nums, if_neg (by rw [bI_0] at c67; rw [c67]; decide)]
              rw [e, hnum, e4, if_neg (fun q => Bool.noConfusion (show false = true from q))]
            exact bs_zret dX6_takesCommand_71 rfl (by decide) ⟨by rw [e2]; rfl, by rw [e2]⟩
      refine bs_istore_n (pc' := 13) (lv' := [(0, _), (1, _)]) dX6_takesCommand_12 rfl rfl rfl ?_
      refine bs_iload_n (pc' := 14) dX6_takesCommand_13 rfl rfl ?_
      refine bs_iconst (v := (-1)) (pc' := 15) dX6_takesCommand_14 (by decide) rfl ?_
      refine bs_icmp_ne (tgt := 20) (pc' := 18) dX6_takesCommand_15 rfl rfl (fun _ => ?_) (fun c15 => absurd c15 (nI_ne_m1 (k := m) (by omega)))
      refine bs_aload_n (pc' := 21) dX6_takesCommand_20 rfl rfl rfl ?_
      refine bs_getf (pc' := 24) kf_X6_48 dX6_takesCommand_21 mh_y rfl rfl ?_
      refine bs_aload_n (pc' := 25) dX6_takesCommand_24 rfl rfl rfl ?_
      refine bs_getf (pc' := 28) kf_X6_171 dX6_takesCommand_25 mh_y rfl rfl ?_
      refine bs_aload_n (pc' := 29) dX6_takesCommand_28 rfl rfl rfl ?_
      refine bs_getf (pc' := 32) kf_X6_45 dX6_takesCommand_29 mh_y rfl rfl ?_
      refine bs_aload_n (pc' := 33) dX6_takesCommand_32 rfl rfl rfl ?_
      refine bs_getf (pc' := 36) kf_X6_159 dX6_takesCommand_33 mh_y rfl rfl ?_
      refine bm_ald (pc' := 37) dX6_takesCommand_36 hA rfl rfl (pA σ) h22 (by show _ < 120; omega) rfl ?_
      refine bm_ast (pc' := 38) dX6_takesCommand_37 hA rfl rfl (zN (σ 21 0)) h21 hcm rfl ?_
      refine bs_aload_n (pc' := 39) dX6_takesCommand_38 rfl rfl rfl ?_
      refine bs_dup (pc' := 40) dX6_takesCommand_39 rfl rfl ?_
      refine bs_getf (pc' := 43) kf_X6_159 dX6_takesCommand_40 mh_y rfl rfl ?_
      refine bs_iconst (v := 1) (pc' := 44) dX6_takesCommand_43 (by decide) rfl ?_
      refine bs_iadd (pc' := 45) dX6_takesCommand_44 rfl ?_
      refine bm_put (pc' := 48) kf_X6_159 dX6_takesCommand_45 rfl rfl rfl rfl ?_
      have e5 : ms_u (ms_u σ 19 (zN (σ 21 0)) (σ 17 (pA σ))) 22 0 (ms_u σ 19 (zN (σ 21 0)) (σ 17 (pA σ)) 22 0 + 1) = t_beg σ := by
        rw [t_beg, sAt, ← nI_1, ← h22]
        rfl
      rw [e5]
      refine bs_iconst (v := 0) (pc' := 49) dX6_takesCommand_48 (by decide) rfl ?_
      refine bs_istore_n (pc' := 50) (lv' := [(0, _), (1, _), (2, _)]) dX6_takesCommand_49 rfl rfl rfl ?_
      exact loop m 0 (t_beg σ) (Nat.zero_add _) b1 (b3 21 (by decide) (by decide)) (by omega) rfl
  refine bs_aload_n (pc' := 1) dX6_takesCommand_0 rfl rfl rfl ?_
  refine bs_getf (pc' := 4) kf_X6_45 dX6_takesCommand_1 mh_y rfl rfl ?_
  refine bs_aload_n (pc' := 5) dX6_takesCommand_4 rfl rfl rfl ?_
  refine bs_getf (pc' := 8) kf_X6_159 dX6_takesCommand_5 mh_y rfl rfl ?_
  refine bm_ald (pc' := 9) dX6_takesCommand_8 hA rfl rfl (pA σ) h22 (by show _ < 120; omega) rfl ?_
  refine bs_callS (N := mX6_manyOf) (pc' := 12) dX6_takesCommand_9 km_X6_168 ko_X6_manyOf sm_manyOf rfl rfl rfl (by omega) (Nat.le_refl _) (Nat.le_refl _) rfl ?_
  rintro _ _ ⟨rfl, rfl⟩
  exact j12
theorem sm_isRead (hA : mOk y A) (hI : mInv σ) : mSp G h0 y A σ hs mX6_isRead 5 [] (mQi G h0 y A (t_read σ).2 hs (bI (t_read σ).1)) := by
  obtain ⟨i1, i2⟩ := ini_ok hI
  have hx : pOk (ms_u (ms_u σ 22 0 0) 21 0 0) := ⟨mInv_u (mInv_u hI (by decide)) (by decide), rfl, Nat.zero_le _, rfl, Nat.le_refl _⟩
  refine bs_Sp.of (by decide) rfl ?_
  have no : ∀ τ, mB G h0 y A τ hs mX6_isRead 5 31 [(0, .ref y), (1, .int 0)] [] (mQi G h0 y A τ hs (bI false)) := by
    intro τ
    refine bs_iload_n (pc' := 32) dX6_isRead_31 rfl rfl ?_
    refine bs_if_eq (tgt := 54) (pc' := 35) dX6_isRead_32 rfl rfl (fun _ => ?_) (fun c32 => absurd rfl c32)
    refine bs_iload_n (pc' := 55) dX6_isRead_54 rfl rfl ?_
    exact bs_zret dX6_isRead_55 rfl (by decide) ⟨rfl, rfl⟩
  have loop : ∀ f τ, pOk τ → pN τ - pA τ ≤ f → mB G h0 y A τ hs mX6_isRead 5 31 [(0, .ref y), (1, .int 1)] [] (mQi G h0 y A (t_all f τ).2 hs (bI (t_all f τ).1)) := by
    intro f
    induction f with
    | zero =>
      intro τ hp hf
      have hn := hp.n
      have ha := hp.2.2.1
      refine bs_iload_n (pc' := 32) dX6_isRead_31 rfl rfl ?_
      refine bs_if_eq (tgt := 54) (pc' := 35) dX6_isRead_32 rfl rfl (fun c32 => absurd c32 (by decide)) (fun _ => ?_)
      refine bs_aload_n (pc' := 36) dX6_isRead_35 rfl rfl rfl ?_
      refine bs_getf (pc' := 39) kf_X6_159 dX6_isRead_36 mh_y rfl rfl ?_
      refine bs_aload_n (pc' := 40) dX6_isRead_39 rfl rfl rfl ?_
      refine bs_getf (pc' := 43) kf_X6_156 dX6_isRead_40 mh_y rfl rfl ?_
      refine bs_icmp_ge (tgt := 54) (pc' := 46) dX6_isRead_43 rfl rfl (fun _ => ?_) (fun c43 => absurd (by rw [hp.2.1, hp.1.ln.1]; exact nI_le (by show pN τ ≤ _; omega) (by omega)) c43)
      refine bs_iload_n (pc' := 55) dX6_isRead_54 rfl rfl ?_
      exact bs_zret dX6_isRead_55 rfl (by decide) ⟨rfl, rfl⟩
    | succ f ih =>
      intro τ hp hf
      have hn := hp.n
      have ha := hp.2.2.1
      by_cases hlt : pA τ < pN τ
      · obtain ⟨c1, c2, c3, c4⟩ := cmd_ok hp hlt
        have eN : pN (t_cmd τ).2 = pN τ := by unfold pN; rw [c4 18 (by decide)]
        have j50 : mB G h0 y A (t_cmd τ).2 hs mX6_isRead 5 50 [(0, .ref y), (1, .int 1)] [.int (bI (t_cmd τ).1)] (mQi G h0 y A (t_all (f + 1) τ).2 hs (bI (t_all (f + 1) τ).1)) := by
          by_cases hc : (t_cmd τ).1 = true
          · have e : t_all (f + 1) τ = t_all f (t_cmd τ).2 := by rw [t_all, if_pos hlt, if_pos hc]
            rw [e, hc]
            refine bs_istore_n (pc' := 51) (lv' := [(0, _), (1, _)]) dX6_isRead_50 rfl rfl rfl ?_
            refine bs_goto (tgt := 31) dX6_isRead_51 rfl ?_
            exact ih _ c1 (by have := c3 hc; omega)
          · have e : t_all (f + 1) τ = t_cmd τ := by rw [t_all, if_pos hlt, if_neg hc]
            have hc' : (t_cmd τ).1 = false := by simpa using hc
            rw [e, hc']
            refine bs_istore_n (pc' := 51) (lv' := [(0, _), (1, _)]) dX6_isRead_50 rfl rfl rfl ?_
            refine bs_goto (tgt := 31) dX6_isRead_51 rfl ?_
            exact no _
        refine bs_iload_n (pc' := 32) dX6_isRead_31 rfl rfl ?_
        refine bs_if_eq (tgt := 54) (pc' := 35) dX6_isRead_32 rfl rfl (fun c32 => absurd c32 (by decide)) (fun _ => ?_)
        refine bs_aload_n (pc' := 36) dX6_isRead_35 rfl rfl rfl ?_
        refine bs_getf (pc' := 39) kf_X6_159 dX6_isRead_36 mh_y rfl rfl ?_
        refine bs_aload_n (pc' := 40) dX6_isRead_39 rfl rfl rfl ?_
        refine bs_getf (pc' := 43) kf_X6_156 dX6_isRead_40 mh_y rfl rfl ?_
        refine bs_icmp_ge (tgt := 54) (pc' := 46) dX6_isRead_43 rfl rfl (fun c43 => absurd c43 (by rw [hp.2.1, hp.1.ln.1]; exact nI_ge hlt (by show pN τ < _; omega))) (fun _ => ?_)
        refine bs_aload_n (pc' := 47) dX6_isRead_46 rfl rfl rfl ?_
        refine bs_callV (N := mX6_takesCommand) (pc' := 50) dX6_isRead_47 km_X6_177 ko_X6_takesCommand (sm_takesCommand hA hp hlt) mh_y rfl rfl rfl (by omega) (Nat.le_refl _) (Nat.le_refl _) rfl ?_
        rintro _ _ ⟨rfl, rfl⟩
        exact j50
      · have e : t_all (f + 1) τ = (true, τ) := by rw [t_all, if_neg hlt]
        rw [e]
        refine bs_iload_n (pc' := 32) dX6_isRead_31 rfl rfl ?_
        refine bs_if_eq (tgt := 54) (pc' := 35) dX6_isRead_32 rfl rfl (fun c32 => absurd c32 (by decide)) (fun _ => ?_)
        refine bs_aload_n (pc' := 36) dX6_isRead_35 rfl rfl rfl ?_
        refine bs_getf (pc' := 39) kf_X6_159 dX6_isRead_36 mh_y rfl rfl ?_
        refine bs_aload_n (pc' := 40) dX6_isRead_39 rfl rfl rfl ?_
        refine bs_getf (pc' := 43) kf_X6_156 dX6_isRead_40 mh_y rfl rfl ?_
        refine bs_icmp_ge (tgt := 54) (pc' := 46) dX6_isRead_43 rfl rfl (fun _ => ?_) (fun c43 => absurd (by rw [hp.2.1, hp.1.ln.1]; exact nI_le (by show pN τ ≤ _; omega) (by omega)) c43)
        refine bs_iload_n (pc' := 55) dX6_isRead_54 rfl rfl ?_
        exact bs_zret dX6_isRead_55 rfl (by decide) ⟨rfl, rfl⟩
  have hn := i1.n
  have eN : pN (t_ini σ) = pN σ := by unfold pN; rw [i2 18 (by decide)]
  refine bs_aload_n (pc' := 1) dX6_isRead_0 rfl rfl rfl ?_
  refine bs_iconst (v := 0) (pc' := 2) dX6_isRead_1 (by decide) rfl ?_
  refine bm_put (pc' := 5) kf_X6_159 dX6_isRead_2 rfl rfl rfl rfl ?_
  refine bs_aload_n (pc' := 6) dX6_isRead_5 rfl rfl rfl ?_
  refine bs_iconst (v := 0) (pc' := 7) dX6_isRead_6 (by decide) rfl ?_
  refine bm_put (pc' := 10) kf_X6_171 dX6_isRead_7 rfl rfl rfl rfl ?_
  refine bs_aload_n (pc' := 11) dX6_isRead_10 rfl rfl rfl ?_
  refine bs_callV (N := mX6_blanks) (pc' := 14) dX6_isRead_11 km_X6_165 ko_X6_blanks (sm_blanks hA hx) mh_y rfl rfl rfl (by omega) (Nat.le_refl _) (Nat.le_refl _) rfl ?_
  rintro _ _ ⟨rfl, rfl⟩
  refine bs_aload_n (pc' := 15) dX6_isRead_14 rfl rfl rfl ?_
  refine bs_getf (pc' := 18) kf_X6_159 dX6_isRead_15 mh_y rfl rfl ?_
  refine bs_aload_n (pc' := 19) dX6_isRead_18 rfl rfl rfl ?_
  refine bs_getf (pc' := 22) kf_X6_156 dX6_isRead_19 mh_y rfl rfl ?_
  refine bs_icmp_ge (tgt := 29) (pc' := 25) dX6_isRead_22 rfl rfl (fun c22 => ?_) (fun c22 => ?_)
  · refine bs_iconst (v := 0) (pc' := 30) dX6_isRead_29 (by decide) rfl ?_
    have e22 := i1.2.1
    have e18 := i1.1.ln.1
    by_cases hlt : pA (t_ini σ) < pN (t_ini σ)
    · refine bs_topi 1 (by first | rfl | exact absurd (show t_ini σ 18 0 ≤ t_ini σ 22 0 from c22) (by rw [e22, e18]; exact nI_ge hlt (by show pN (t_ini σ) < _; omega))) ?_
      refine bs_istore_n (pc' := 31) (lv' := [(0, _), (1, _)]) dX6_isRead_30 rfl rfl rfl ?_
      have e : t_read σ = t_all (pN σ) (t_ini σ) := by rw [t_read, if_pos hlt]
      rw [e]
      exact loop (pN σ) (t_ini σ) i1 (by omega)
    · refine bs_topi 0 (by first | rfl | exact absurd (show t_ini σ 18 0 ≤ t_ini σ 22 0 by rw [e22, e18]; exact nI_le (by show pN (t_ini σ) ≤ _; omega) (by have := i1.2.2.1; omega)) c22) ?_
      refine bs_istore_n (pc' := 31) (lv' := [(0, _), (1, _)]) dX6_isRead_30 rfl rfl rfl ?_
      have e : t_read σ = (false, t_ini σ) := by rw [t_read, if_neg hlt]
      rw [e]
      exact no (t_ini σ)
  · refine bs_iconst (v := 1) (pc' := 26) dX6_isRead_25 (by decide) rfl ?_
    refine bs_goto (tgt := 30) dX6_isRead_26 rfl ?_
    have e22 := i1.2.1
    have e18 := i1.1.ln.1
    by_cases hlt : pA (t_ini σ) < pN (t_ini σ)
    · refine bs_topi 1 (by first | rfl | exact absurd (show t_ini σ 18 0 ≤ t_ini σ 22 0 from c22) (by rw [e22, e18]; exact nI_ge hlt (by show pN (t_ini σ) < _; omega))) ?_
      refine bs_istore_n (pc' := 31) (lv' := [(0, _), (1, _)]) dX6_isRead_30 rfl rfl rfl ?_
      have e : t_read σ = t_all (pN σ) (t_ini σ) := by rw [t_read, if_pos hlt]
      rw [e]
      exact loop (pN σ) (t_ini σ) i1 (by omega)
    · refine bs_topi 0 (by first | rfl | exact absurd (show t_ini σ 18 0 ≤ t_ini σ 22 0 by rw [e22, e18]; exact nI_le (by show pN (t_ini σ) ≤ _; omega) (by have := i1.2.2.1; omega)) c22) ?_
      refine bs_istore_n (pc' := 31) (lv' := [(0, _), (1, _)]) dX6_isRead_30 rfl rfl rfl ?_
      have e : t_read σ = (false, t_ini σ) := by rw [t_read, if_neg hlt]
      rw [e]
      exact no (t_ini σ)
theorem sm_execute {k : Nat} (hA : mOk y A) (hI : mInv σ) (hk : k < 60) : mSp G h0 y A σ hs mX6_execute 4 [.int (nI k)] (mQ2 G h0 y A hs (s_exe σ k)) := by
  have e3 : 3 * nI k = nI (3 * k) := pk_mul 3 k
  have e31 : 3 * nI k + 1 = nI (3 * k + 1) := by rw [e3]; exact nI_1 _
  have e32 : 3 * nI k + 2 = nI (3 * k + 2) := by rw [e3]; exact nI_add _ 2
  refine bs_Sp.of (by decide) rfl ?_
  unfold s_exe
  have j38 : ∀ c, mB G h0 y A σ hs mX6_execute 4 38 [(0, .ref y), (1, .int (nI k)), (2, .int (σ 20 (3 * k))), (3, .int (σ 20 (3 * k + 1))), (4, .int (σ 20 (3 * k + 2)))] [.int c] (mQ2 G h0 y A hs (s_cmd σ c (σ 20 (3 * k)) (σ 20 (3 * k + 1)) (σ 20 (3 * k + 2)))) := by
    intro c
    generalize σ 20 (3 * k) = x1
    generalize σ 20 (3 * k + 1) = x2
    generalize σ 20 (3 * k + 2) = x3
    by_cases hr : c.toInt < 97 ∨ 119 < c.toInt
    · refine bs_switchOut (tgt := 210) dX6_execute_38 hr rfl ?_
      have q := sw_out hr
      have e : s_cmd σ c x1 x2 x3 = s_leave σ := by
        unfold s_cmd
        rw [if_neg (q _ (by decide) (by decide)), if_neg (q _ (by decide) (by decide)), if_neg (q _ (by decide) (by decide)), if_neg (q _ (by decide) (by decide)), if_neg (q _ (by decide) (by decide)), if_neg (q _ (by decide) (by decide)), if_neg (q _ (by decide) (by decide)), if_neg (q _ (by decide) (by decide))]
      rw [e]
      refine bs_aload_n (pc' := 211) dX6_execute_210 rfl rfl rfl ?_
      refine bs_callV (N := mX6_leaveCall) (pc' := 214) dX6_execute_211 km_X6_201 ko_X6_leaveCall (sm_leaveCall hA) mh_y rfl rfl rfl (by omega) (Nat.le_refl _) (Nat.le_refl _) rfl ?_
      rintro _ _ ⟨rfl, rfl⟩
      exact bs_iret dX6_execute_214 rfl ⟨rfl, rfl⟩
    · obtain ⟨j, hj, rfl⟩ := sw_in hr
      match j, hj with
      | 0, _ =>
        refine bs_switchIn (off := 106) (tgt := 144) dX6_execute_38 (by decide) (by decide) (by decide) rfl ?_
        have e : s_cmd σ (nI (97 + 0)) x1 x2 x3 = s_alloc σ x1 := by
          unfold s_cmd
          rw [if_pos (by decide)]
        rw [e]
        refine bs_aload_n (pc' := 145) dX6_execute_144 rfl rfl rfl ?_
        refine bs_iload_n (pc' := 146) dX6_execute_145 rfl rfl ?_
        refine bs_callV (N := mX6_allocate) (pc' := 149) dX6_execute_146 km_X6_181 ko_X6_allocate (sm_allocate hA hI) mh_y rfl rfl rfl (by omega) (Nat.le_refl _) (Nat.le_refl _) rfl ?_
        rintro _ _ ⟨rfl, rfl⟩
        exact bs_iret dX6_execute_149 rfl ⟨rfl, rfl⟩
      | 1, _ =>
        refine bs_switchIn (off := 172) (tgt := 210) dX6_execute_38 (by decide) (by decide) (by decide) rfl ?_
        have e : s_cmd σ (nI (97 + 1)) x1 x2 x3 = s_leave σ := by
          unfold s_cmd
          rw [if_neg (by decide), if_neg (by decide), if_neg (by decide), if_neg (by decide), if_neg (by decide), if_neg (by decide), if_neg (by decide), if_neg (by decide)]
        rw [e]
        refine bs_aload_n (pc' := 211) dX6_execute_210 rfl rfl rfl ?_
        refine bs_callV (N := mX6_leaveCall) (pc' := 214) dX6_execute_211 km_X6_201 ko_X6_leaveCall (sm_leaveCall hA) mh_y rfl rfl rfl (by omega) (Nat.le_refl _) (Nat.le_refl _) rfl ?_
        rintro _ _ ⟨rfl, rfl⟩
        exact bs_iret dX6_execute_214 rfl ⟨rfl, rfl⟩
      | 2, _ =>
        refine bs_switchIn (off := 172) (tgt := 210) dX6_execute_38 (by decide) (by decide) (by decide) rfl ?_
        have e : s_cmd σ (nI (97 + 2)) x1 x2 x3 = s_leave σ := by
          unfold s_cmd
          rw [if_neg (by decide), if_neg (by decide), if_neg (by decide), if_neg (by decide), if_neg (by decide), if_neg (by decide), if_neg (by decide), if_neg (by decide)]
        rw [e]
        refine bs_aload_n (pc' := 211) dX6_execute_210 rfl rfl rfl ?_
        refine bs_callV (N := mX6_leaveCall) (pc' := 214) dX6_execute_211 km_X6_201 ko_X6_leaveCall (sm_leaveCall hA) mh_y rfl rfl rfl (by omega) (Nat.le_refl _) (Nat.le_refl _) rfl ?_
        rintro _ _ ⟨rfl, rfl⟩
        exact bs_iret dX6_execute_214 rfl ⟨rfl, rfl⟩
      | 3, _ =>
        refine bs_switchIn (off := 172) (tgt := 210) dX6_execute_38 (by decide) (by decide) (by decide) rfl ?_
        have e : s_cmd σ (nI (97 + 3)) x1 x2 x3 = s_leave σ := by
          unfold s_cmd
          rw [if_neg (by decide), if_neg (by decide), if_neg (by decide), if_neg (by decide), if_neg (by decide), if_neg (by decide), if_neg (by decide), if_neg (by decide)]
        rw [e]
        refine bs_aload_n (pc' := 211) dX6_execute_210 rfl rfl rfl ?_
        refine bs_callV (N := mX6_leaveCall) (pc' := 214) dX6_execute_211 km_X6_201 ko_X6_leaveCall (sm_leaveCall hA) mh_y rfl rfl rfl (by omega) (Nat.le_refl _) (Nat.le_refl _) rfl ?_
        rintro _ _ ⟨rfl, rfl⟩
        exact bs_iret dX6_execute_214 rfl ⟨rfl, rfl⟩
      | 4, _ =>
        refine bs_switchIn (off := 167) (tgt := 205) dX6_execute_38 (by decide) (by decide) (by decide) rfl ?_
        have e : s_cmd σ (nI (97 + 4)) x1 x2 x3 = s_enter σ := by
          unfold s_cmd
          rw [if_neg (by decide), if_neg (by decide), if_neg (by decide), if_neg (by decide), if_neg (by decide), if_neg (by decide), if_neg (by decide), if_pos (by decide)]
        rw [e]
        refine bs_aload_n (pc' := 206) dX6_execute_205 rfl rfl rfl ?_
        refine bs_callV (N := mX6_enterCall) (pc' := 209) dX6_execute_206 km_X6_197 ko_X6_enterCall (sm_enterCall hA) mh_y rfl rfl rfl (by omega) (Nat.le_refl _) (Nat.le_refl _) rfl ?_
        rintro _ _ ⟨rfl, rfl⟩
        exact bs_iret dX6_execute_209 rfl ⟨rfl, rfl⟩
      | 5, _ =>
        refine bs_switchIn (off := 161) (tgt := 199) dX6_execute_38 (by decide) (by decide) (by decide) rfl ?_
        have e : s_cmd σ (nI (97 + 5)) x1 x2 x3 = s_free σ x1 := by
          unfold s_cmd
          rw [if_neg (by decide), if_neg (by decide), if_neg (by decide), if_neg (by decide), if_neg (by decide), if_neg (by decide), if_pos (by decide)]
        rw [e]
        refine bs_aload_n (pc' := 200) dX6_execute_199 rfl rfl rfl ?_
        refine bs_iload_n (pc' := 201) dX6_execute_200 rfl rfl ?_
        refine bs_callV (N := mX6_free) (pc' := 204) dX6_execute_201 km_X6_194 ko_X6_free (sm_free hA hI) mh_y rfl rfl rfl (by omega) (Nat.le_refl _) (Nat.le_refl _) rfl ?_
        rintro _ _ ⟨rfl, rfl⟩
        exact bs_iret dX6_execute_204 rfl ⟨rfl, rfl⟩
      | 6, _ =>
        refine bs_switchIn (off := 172) (tgt := 210) dX6_execute_38 (by decide) (by decide) (by decide) rfl ?_
        have e : s_cmd σ (nI (97 + 6)) x1 x2 x3 = s_leave σ := by
          unfold s_cmd
          rw [if_neg (by decide), if_neg (by decide), if_neg (by decide), if_neg (by decide), if_neg (by decide), if_neg (by decide), if_neg (by decide), if_neg (by decide)]
        rw [e]
        refine bs_aload_n (pc' := 211) dX6_execute_210 rfl rfl rfl ?_
        refine bs_callV (N := mX6_leaveCall) (pc' := 214) dX6_execute_211 km_X6_201 ko_X6_leaveCall (sm_leaveCall hA) mh_y rfl rfl rfl (by omega) (Nat.le_refl _) (Nat.le_refl _) rfl ?_
        rintro _ _ ⟨rfl, rfl⟩
        exact bs_iret dX6_execute_214 rfl ⟨rfl, rfl⟩
      | 7, _ =>
        refine bs_switchIn (off := 172) (tgt := 210) dX6_execute_38 (by decide) (by decide) (by decide) rfl ?_
        have e : s_cmd σ (nI (97 + 7)) x1 x2 x3 = s_leave σ := by
          unfold s_cmd
          rw [if_neg (by decide), if_neg (by decide), if_neg (by decide), if_neg (by decide), if_neg (by decide), if_neg (by decide), if_neg (by decide), if_neg (by decide)]
        rw [e]
        refine bs_aload_n (pc' := 211) dX6_execute_210 rfl rfl rfl ?_
        refine bs_callV (N := mX6_leaveCall) (pc' := 214) dX6_execute_211 km_X6_201 ko_X6_leaveCall (sm_leaveCall hA) mh_y rfl rfl rfl (by omega) (Nat.le_refl _) (Nat.le_refl _) rfl ?_
        rintro _ _ ⟨rfl, rfl⟩
        exact bs_iret dX6_execute_214 rfl ⟨rfl, rfl⟩
      | 8, _ =>
        refine bs_switchIn (off := 172) (tgt := 210) dX6_execute_38 (by decide) (by decide) (by decide) rfl ?_
        have e : s_cmd σ (nI (97 + 8)) x1 x2 x3 = s_leave σ := by
          unfold s_cmd
          rw [if_neg (by decide), if_neg (by decide), if_neg (by decide), if_neg (by decide), if_neg (by decide), if_neg (by decide), if_neg (by decide), if_neg (by decide)]
        rw [e]
        refine bs_aload_n (pc' := 211) dX6_execute_210 rfl rfl rfl ?_
        refine bs_callV (N := mX6_leaveCall) (pc' := 214) dX6_execute_211 km_X6_201 ko_X6_leaveCall (sm_leaveCall hA) mh_y rfl rfl rfl (by omega) (Nat.le_refl _) (Nat.le_refl _) rfl ?_
        rintro _ _ ⟨rfl, rfl⟩
        exact bs_iret dX6_execute_214 rfl ⟨rfl, rfl⟩
      | 9, _ =>
        refine bs_switchIn (off := 172) (tgt := 210) dX6_execute_38 (by decide) (by decide) (by decide) rfl ?_
        have e : s_cmd σ (nI (97 + 9)) x1 x2 x3 = s_leave σ := by
          unfold s_cmd
          rw [if_neg (by decide), if_neg (by decide), if_neg (by decide), if_neg (by decide), if_neg (by decide), if_neg (by decide), if_neg (by decide), if_neg (by decide)]
        rw [e]
        refine bs_aload_n (pc' := 211) dX6_execute_210 rfl rfl rfl ?_
        refine bs_callV (N := mX6_leaveCall) (pc' := 214) dX6_execute_211 km_X6_201 ko_X6_leaveCall (sm_leaveCall hA) mh_y rfl rfl rfl (by omega) (Nat.le_refl _) (Nat.le_refl _) rfl ?_
        rintro _ _ ⟨rfl, rfl⟩
        exact bs_iret dX6_execute_214 rfl ⟨rfl, rfl⟩
      | 10, _ =>
        refine bs_switchIn (off := 172) (tgt := 210) dX6_execute_38 (by decide) (by decide) (by decide) rfl ?_
        have e : s_cmd σ (nI (97 + 10)) x1 x2 x3 = s_leave σ := by
          unfold s_cmd
          rw [if_neg (by decide), if_neg (by decide), if_neg (by decide), if_neg (by decide), if_neg (by decide), if_neg (by decide), if_neg (by decide), if_neg (by decide)]
        rw [e]
        refine bs_aload_n (pc' := 211) dX6_execute_210 rfl rfl rfl ?_
        refine bs_callV (N := mX6_leaveCall) (pc' := 214) dX6_execute_211 km_X6_201 ko_X6_leaveCall (sm_leaveCall hA) mh_y rfl rfl rfl (by omega) (Nat.le_refl _) (Nat.le_refl _) rfl ?_
        rintro _ _ ⟨rfl, rfl⟩
        exact bs_iret dX6_execute_214 rfl ⟨rfl, rfl⟩
      | 11, _ =>
        refine bs_switchIn (off := 172) (tgt := 210) dX6_execute_38 (by decide) (by decide) (by decide) rfl ?_
        have e : s_cmd σ (nI (97 + 11)) x1 x2 x3 = s_leave σ := by
          unfold s_cmd
          rw [if_neg (by decide), if_neg (by decide), if_neg (by decide), if_neg (by decide), if_neg (by decide), if_neg (by decide), if_neg (by decide), if_neg (by decide)]
        rw [e]
        refine bs_aload_n (pc' := 211) dX6_execute_210 rfl rfl rfl ?_
        refine bs_callV (N := mX6_leaveCall) (pc' := 214) dX6_execute_211 km_X6_201 ko_X6_leaveCall (sm_leaveCall hA) mh_y rfl rfl rfl (by omega) (Nat.le_refl _) (Nat.le_refl _) rfl ?_
        rintro _ _ ⟨rfl, rfl⟩
        exact bs_iret dX6_execute_214 rfl ⟨rfl, rfl⟩
      | 12, _ =>
        refine bs_switchIn (off := 128) (tgt := 166) dX6_execute_38 (by decide) (by decide) (by decide) rfl ?_
        have e : s_cmd σ (nI (97 + 12)) x1 x2 x3 = s_reb σ x1 0 x2 x3 0 := by
          unfold s_cmd
          rw [if_neg (by decide), if_neg (by decide), if_neg (by decide), if_pos (by decide)]
        rw [e]
        refine bs_aload_n (pc' := 167) dX6_execute_166 rfl rfl rfl ?_
        refine bs_iload_n (pc' := 168) dX6_execute_167 rfl rfl ?_
        refine bs_iconst (v := 0) (pc' := 169) dX6_execute_168 (by decide) rfl ?_
        refine bs_iload_n (pc' := 170) dX6_execute_169 rfl rfl ?_
        refine bs_iload (pc' := 172) dX6_execute_170 rfl rfl ?_
        refine bs_iconst (v := 0) (pc' := 173) dX6_execute_172 (by decide) rfl ?_
        refine bs_callV (N := mX6_reborrow) (pc' := 176) dX6_execute_173 km_X6_190 ko_X6_reborrow (sm_reborrow hA hI) mh_y rfl rfl rfl (by omega) (Nat.le_refl _) (Nat.le_refl _) rfl ?_
        rintro _ _ ⟨rfl, rfl⟩
        exact bs_iret dX6_execute_176 rfl ⟨rfl, rfl⟩
      | 13, _ =>
        refine bs_switchIn (off := 172) (tgt := 210) dX6_execute_38 (by decide) (by decide) (by decide) rfl ?_
        have e : s_cmd σ (nI (97 + 13)) x1 x2 x3 = s_leave σ := by
          unfold s_cmd
          rw [if_neg (by decide), if_neg (by decide), if_neg (by decide), if_neg (by decide), if_neg (by decide), if_neg (by decide), if_neg (by decide), if_neg (by decide)]
        rw [e]
        refine bs_aload_n (pc' := 211) dX6_execute_210 rfl rfl rfl ?_
        refine bs_callV (N := mX6_leaveCall) (pc' := 214) dX6_execute_211 km_X6_201 ko_X6_leaveCall (sm_leaveCall hA) mh_y rfl rfl rfl (by omega) (Nat.le_refl _) (Nat.le_refl _) rfl ?_
        rintro _ _ ⟨rfl, rfl⟩
        exact bs_iret dX6_execute_214 rfl ⟨rfl, rfl⟩
      | 14, _ =>
        refine bs_switchIn (off := 172) (tgt := 210) dX6_execute_38 (by decide) (by decide) (by decide) rfl ?_
        have e : s_cmd σ (nI (97 + 14)) x1 x2 x3 = s_leave σ := by
          unfold s_cmd
          rw [if_neg (by decide), if_neg (by decide), if_neg (by decide), if_neg (by decide), if_neg (by decide), if_neg (by decide), if_neg (by decide), if_neg (by decide)]
        rw [e]
        refine bs_aload_n (pc' := 211) dX6_execute_210 rfl rfl rfl ?_
        refine bs_callV (N := mX6_leaveCall) (pc' := 214) dX6_execute_211 km_X6_201 ko_X6_leaveCall (sm_leaveCall hA) mh_y rfl rfl rfl (by omega) (Nat.le_refl _) (Nat.le_refl _) rfl ?_
        rintro _ _ ⟨rfl, rfl⟩
        exact bs_iret dX6_execute_214 rfl ⟨rfl, rfl⟩
      | 15, _ =>
        refine bs_switchIn (off := 150) (tgt := 188) dX6_execute_38 (by decide) (by decide) (by decide) rfl ?_
        have e : s_cmd σ (nI (97 + 15)) x1 x2 x3 = s_reb σ x1 2 x2 x3 0 := by
          unfold s_cmd
          rw [if_neg (by decide), if_neg (by decide), if_neg (by decide), if_neg (by decide), if_neg (by decide), if_pos (by decide)]
        rw [e]
        refine bs_aload_n (pc' := 189) dX6_execute_188 rfl rfl rfl ?_
        refine bs_iload_n (pc' := 190) dX6_execute_189 rfl rfl ?_
        refine bs_iconst (v := 2) (pc' := 191) dX6_execute_190 (by decide) rfl ?_
        refine bs_iload_n (pc' := 192) dX6_execute_191 rfl rfl ?_
        refine bs_iload (pc' := 194) dX6_execute_192 rfl rfl ?_
        refine bs_iconst (v := 0) (pc' := 195) dX6_execute_194 (by decide) rfl ?_
        refine bs_callV (N := mX6_reborrow) (pc' := 198) dX6_execute_195 km_X6_190 ko_X6_reborrow (sm_reborrow hA hI) mh_y rfl rfl rfl (by omega) (Nat.le_refl _) (Nat.le_refl _) rfl ?_
        rintro _ _ ⟨rfl, rfl⟩
        exact bs_iret dX6_execute_198 rfl ⟨rfl, rfl⟩
      | 16, _ =>
        refine bs_switchIn (off := 172) (tgt := 210) dX6_execute_38 (by decide) (by decide) (by decide) rfl ?_
        have e : s_cmd σ (nI (97 + 16)) x1 x2 x3 = s_leave σ := by
          unfold s_cmd
          rw [if_neg (by decide), if_neg (by decide), if_neg (by decide), if_neg (by decide), if_neg (by decide), if_neg (by decide), if_neg (by decide), if_neg (by decide)]
        rw [e]
        refine bs_aload_n (pc' := 211) dX6_execute_210 rfl rfl rfl ?_
        refine bs_callV (N := mX6_leaveCall) (pc' := 214) dX6_execute_211 km_X6_201 ko_X6_leaveCall (sm_leaveCall hA) mh_y rfl rfl rfl (by omega) (Nat.le_refl _) (Nat.le_refl _) rfl ?_
        rintro _ _ ⟨rfl, rfl⟩
        exact bs_iret dX6_execute_214 rfl ⟨rfl, rfl⟩
      | 17, _ =>
        refine bs_switchIn (off := 112) (tgt := 150) dX6_execute_38 (by decide) (by decide) (by decide) rfl ?_
        have e : s_cmd σ (nI (97 + 17)) x1 x2 x3 = s_read σ x1 x2 := by
          unfold s_cmd
          rw [if_neg (by decide), if_pos (by decide)]
        rw [e]
        refine bs_aload_n (pc' := 151) dX6_execute_150 rfl rfl rfl ?_
        refine bs_iload_n (pc' := 152) dX6_execute_151 rfl rfl ?_
        refine bs_iload_n (pc' := 153) dX6_execute_152 rfl rfl ?_
        refine bs_callV (N := mX6_read) (pc' := 156) dX6_execute_153 km_X6_184 ko_X6_read (sm_read hA hI) mh_y rfl rfl rfl (by omega) (Nat.le_refl _) (Nat.le_refl _) rfl ?_
        rintro _ _ ⟨rfl, rfl⟩
        exact bs_iret dX6_execute_156 rfl ⟨rfl, rfl⟩
      | 18, _ =>
        refine bs_switchIn (off := 139) (tgt := 177) dX6_execute_38 (by decide) (by decide) (by decide) rfl ?_
        have e : s_cmd σ (nI (97 + 18)) x1 x2 x3 = s_reb σ x1 1 x2 x3 0 := by
          unfold s_cmd
          rw [if_neg (by decide), if_neg (by decide), if_neg (by decide), if_neg (by decide), if_pos (by decide)]
        rw [e]
        refine bs_aload_n (pc' := 178) dX6_execute_177 rfl rfl rfl ?_
        refine bs_iload_n (pc' := 179) dX6_execute_178 rfl rfl ?_
        refine bs_iconst (v := 1) (pc' := 180) dX6_execute_179 (by decide) rfl ?_
        refine bs_iload_n (pc' := 181) dX6_execute_180 rfl rfl ?_
        refine bs_iload (pc' := 183) dX6_execute_181 rfl rfl ?_
        refine bs_iconst (v := 0) (pc' := 184) dX6_execute_183 (by decide) rfl ?_
        refine bs_callV (N := mX6_reborrow) (pc' := 187) dX6_execute_184 km_X6_190 ko_X6_reborrow (sm_reborrow hA hI) mh_y rfl rfl rfl (by omega) (Nat.le_refl _) (Nat.le_refl _) rfl ?_
        rintro _ _ ⟨rfl, rfl⟩
        exact bs_iret dX6_execute_187 rfl ⟨rfl, rfl⟩
      | 19, _ =>
        refine bs_switchIn (off := 172) (tgt := 210) dX6_execute_38 (by decide) (by decide) (by decide) rfl ?_
        have e : s_cmd σ (nI (97 + 19)) x1 x2 x3 = s_leave σ := by
          unfold s_cmd
          rw [if_neg (by decide), if_neg (by decide), if_neg (by decide), if_neg (by decide), if_neg (by decide), if_neg (by decide), if_neg (by decide), if_neg (by decide)]
        rw [e]
        refine bs_aload_n (pc' := 211) dX6_execute_210 rfl rfl rfl ?_
        refine bs_callV (N := mX6_leaveCall) (pc' := 214) dX6_execute_211 km_X6_201 ko_X6_leaveCall (sm_leaveCall hA) mh_y rfl rfl rfl (by omega) (Nat.le_refl _) (Nat.le_refl _) rfl ?_
        rintro _ _ ⟨rfl, rfl⟩
        exact bs_iret dX6_execute_214 rfl ⟨rfl, rfl⟩
      | 20, _ =>
        refine bs_switchIn (off := 172) (tgt := 210) dX6_execute_38 (by decide) (by decide) (by decide) rfl ?_
        have e : s_cmd σ (nI (97 + 20)) x1 x2 x3 = s_leave σ := by
          unfold s_cmd
          rw [if_neg (by decide), if_neg (by decide), if_neg (by decide), if_neg (by decide), if_neg (by decide), if_neg (by decide), if_neg (by decide), if_neg (by decide)]
        rw [e]
        refine bs_aload_n (pc' := 211) dX6_execute_210 rfl rfl rfl ?_
        refine bs_callV (N := mX6_leaveCall) (pc' := 214) dX6_execute_211 km_X6_201 ko_X6_leaveCall (sm_leaveCall hA) mh_y rfl rfl rfl (by omega) (Nat.le_refl _) (Nat.le_refl _) rfl ?_
        rintro _ _ ⟨rfl, rfl⟩
        exact bs_iret dX6_execute_214 rfl ⟨rfl, rfl⟩
      | 21, _ =>
        refine bs_switchIn (off := 172) (tgt := 210) dX6_execute_38 (by decide) (by decide) (by decide) rfl ?_
        have e : s_cmd σ (nI (97 + 21)) x1 x2 x3 = s_leave σ := by
          unfold s_cmd
          rw [if_neg (by decide), if_neg (by decide), if_neg (by decide), if_neg (by decide), if_neg (by decide), if_neg (by decide), if_neg (by decide), if_neg (by decide)]
        rw [e]
        refine bs_aload_n (pc' := 211) dX6_execute_210 rfl rfl rfl ?_
        refine bs_callV (N := mX6_leaveCall) (pc' := 214) dX6_execute_211 km_X6_201 ko_X6_leaveCall (sm_leaveCall hA) mh_y rfl rfl rfl (by omega) (Nat.le_refl _) (Nat.le_refl _) rfl ?_
        rintro _ _ ⟨rfl, rfl⟩
        exact bs_iret dX6_execute_214 rfl ⟨rfl, rfl⟩
      | 22, _ =>
        refine bs_switchIn (off := 119) (tgt := 157) dX6_execute_38 (by decide) (by decide) (by decide) rfl ?_
        have e : s_cmd σ (nI (97 + 22)) x1 x2 x3 = s_write σ x1 x2 x3 := by
          unfold s_cmd
          rw [if_neg (by decide), if_neg (by decide), if_pos (by decide)]
        rw [e]
        refine bs_aload_n (pc' := 158) dX6_execute_157 rfl rfl rfl ?_
        refine bs_iload_n (pc' := 159) dX6_execute_158 rfl rfl ?_
        refine bs_iload_n (pc' := 160) dX6_execute_159 rfl rfl ?_
        refine bs_iload (pc' := 162) dX6_execute_160 rfl rfl ?_
        refine bs_callV (N := mX6_write) (pc' := 165) dX6_execute_162 km_X6_187 ko_X6_write (sm_write hA hI) mh_y rfl rfl rfl (by omega) (Nat.le_refl _) (Nat.le_refl _) rfl ?_
        rintro _ _ ⟨rfl, rfl⟩
        exact bs_iret dX6_execute_165 rfl ⟨rfl, rfl⟩
      | j + 23, h => exact absurd h (by omega)
  refine bs_aload_n (pc' := 1) dX6_execute_0 rfl rfl rfl ?_
  refine bs_getf (pc' := 4) kf_X6_51 dX6_execute_1 mh_y rfl rfl ?_
  refine bs_iconst (v := 3) (pc' := 5) dX6_execute_4 (by decide) rfl ?_
  refine bs_iload_n (pc' := 6) dX6_execute_5 rfl rfl ?_
  refine bs_imul (pc' := 7) dX6_execute_6 rfl ?_
  refine bm_ald (pc' := 8) dX6_execute_7 hA rfl rfl (3 * k) e3 (by show _ < 180; omega) rfl ?_
  refine bs_istore_n (pc' := 9) (lv' := [(0, _), (1, _), (2, _)]) dX6_execute_8 rfl rfl rfl ?_
  refine bs_aload_n (pc' := 10) dX6_execute_9 rfl rfl rfl ?_
  refine bs_getf (pc' := 13) kf_X6_51 dX6_execute_10 mh_y rfl rfl ?_
  refine bs_iconst (v := 3) (pc' := 14) dX6_execute_13 (by decide) rfl ?_
  refine bs_iload_n (pc' := 15) dX6_execute_14 rfl rfl ?_
  refine bs_imul (pc' := 16) dX6_execute_15 rfl ?_
  refine bs_iconst (v := 1) (pc' := 17) dX6_execute_16 (by decide) rfl ?_
  refine bs_iadd (pc' := 18) dX6_execute_17 rfl ?_
  refine bm_ald (pc' := 19) dX6_execute_18 hA rfl rfl (3 * k + 1) e31 (by show _ < 180; omega) rfl ?_
  refine bs_istore_n (pc' := 20) (lv' := [(0, _), (1, _), (2, _), (3, _)]) dX6_execute_19 rfl rfl rfl ?_
  refine bs_aload_n (pc' := 21) dX6_execute_20 rfl rfl rfl ?_
  refine bs_getf (pc' := 24) kf_X6_51 dX6_execute_21 mh_y rfl rfl ?_
  refine bs_iconst (v := 3) (pc' := 25) dX6_execute_24 (by decide) rfl ?_
  refine bs_iload_n (pc' := 26) dX6_execute_25 rfl rfl ?_
  refine bs_imul (pc' := 27) dX6_execute_26 rfl ?_
  refine bs_iconst (v := 2) (pc' := 28) dX6_execute_27 (by decide) rfl ?_
  refine bs_iadd (pc' := 29) dX6_execute_28 rfl ?_
  refine bm_ald (pc' := 30) dX6_execute_29 hA rfl rfl (3 * k + 2) e32 (by show _ < 180; omega) rfl ?_
  refine bs_istore (pc' := 32) (lv' := [(0, _), (1, _), (2, _), (3, _), (4, _)]) dX6_execute_30 rfl rfl rfl ?_
  refine bs_aload_n (pc' := 33) dX6_execute_32 rfl rfl rfl ?_
  refine bs_getf (pc' := 36) kf_X6_48 dX6_execute_33 mh_y rfl rfl ?_
  refine bs_iload_n (pc' := 37) dX6_execute_36 rfl rfl ?_
  refine bm_ald (pc' := 38) dX6_execute_37 hA rfl rfl k rfl hk rfl ?_
  exact j38 _
theorem sm_executeAll (hA : mOk y A) (hI : mInv σ) (h21 : σ 21 0 = nI (zN (σ 21 0))) (h60 : zN (σ 21 0) ≤ 60) : mSp G h0 y A σ hs mX6_executeAll 5 [] (mQ2 G h0 y A hs (s_exa (zN (σ 21 0)) 0 σ)) := by
  refine bs_Sp.of (by decide) rfl ?_
  have loop : ∀ f k τ, k + f = zN (σ 21 0) → mInv τ → τ 21 = σ 21 → s_exa (zN (σ 21 0)) 0 σ = s_exa f k τ → mB G h0 y A τ hs mX6_executeAll 5 2 [(0, .ref y), (1, .int (nI k))] [] (mQ2 G h0 y A hs (s_exa (zN (σ 21 0)) 0 σ)) := by
    intro f
    induction f with
    | zero =>
      intro k τ hk hIt e21 hex
      have e : s_exa (zN (σ 21 0)) 0 σ = (τ 21 0, τ) := hex
      refine bs_iload_n (pc' := 3) dX6_executeAll_2 rfl rfl ?_
      refine bs_aload_n (pc' := 4) dX6_executeAll_3 rfl rfl rfl ?_
      refine bs_getf (pc' := 7) kf_X6_171 dX6_executeAll_4 mh_y rfl rfl ?_
      refine bs_icmp_ge (tgt := 32) (pc' := 10) dX6_executeAll_7 rfl rfl (fun _ => ?_) (fun c7 => absurd (by rw [e21, h21]; exact nI_le (by omega) (by omega)) c7)
      refine bs_aload_n (pc' := 33) dX6_executeAll_32 rfl rfl rfl ?_
      refine bs_getf (pc' := 36) kf_X6_171 dX6_executeAll_33 mh_y rfl rfl ?_
      exact bs_iret dX6_executeAll_36 rfl ⟨by rw [e], by rw [e]⟩
    | succ f ih =>
      intro k τ hk hIt e21 hex
      obtain ⟨o1, o2⟩ := ok_cmd (c := τ 19 k) (x := τ 20 (3 * k)) (y := τ 20 (3 * k + 1)) (z := τ 20 (3 * k + 2)) hIt
      refine bs_iload_n (pc' := 3) dX6_executeAll_2 rfl rfl ?_
      refine bs_aload_n (pc' := 4) dX6_executeAll_3 rfl rfl rfl ?_
      refine bs_getf (pc' := 7) kf_X6_171 dX6_executeAll_4 mh_y rfl rfl ?_
      refine bs_icmp_ge (tgt := 32) (pc' := 10) dX6_executeAll_7 rfl rfl (fun c7 => absurd c7 (by rw [e21, h21]; exact nI_ge (by omega) (by omega))) (fun _ => ?_)
      refine bs_aload_n (pc' := 11) dX6_executeAll_10 rfl rfl rfl ?_
      refine bs_iload_n (pc' := 12) dX6_executeAll_11 rfl rfl ?_
      refine bs_callV (N := mX6_execute) (pc' := 15) dX6_executeAll_12 km_X6_204 ko_X6_execute (sm_execute hA hIt (by omega)) mh_y rfl rfl rfl (by omega) (Nat.le_refl _) (Nat.le_refl _) rfl ?_
      rintro _ _ ⟨rfl, rfl⟩
      refine bs_bipush (v := (-2)) (pc' := 17) dX6_executeAll_15 (by decide) rfl ?_
      refine bs_icmp_gt (tgt := 26) (pc' := 20) dX6_executeAll_17 rfl rfl (fun c17 => ?_) (fun c17 => ?_)
      · refine bs_iinc (pc' := 29) (lv' := [(0, _), (1, _)]) dX6_executeAll_26 rfl (nI_i1 k) rfl rfl rfl ?_
        refine bs_goto (tgt := 2) dX6_executeAll_29 rfl ?_
        exact ih (k + 1) _ (by omega) o1 ((o2 21 (by unfold kScr; decide)).trans e21) (by rw [hex, s_exa, if_neg (fun q => Int32.not_lt.mpr q c17)])
      · refine bs_sipush (v := (-1000)) (pc' := 23) dX6_executeAll_20 (by decide) rfl ?_
        refine bs_iload_n (pc' := 24) dX6_executeAll_23 rfl rfl ?_
        refine bs_isub (pc' := 25) dX6_executeAll_24 rfl ?_
        have e : s_exa (zN (σ 21 0)) 0 σ = (-1000 - nI k, (s_exe τ k).2) := by rw [hex, s_exa, if_pos (Int32.not_lt.mp c17)]
        exact bs_iret dX6_executeAll_25 rfl ⟨by rw [e], by rw [e]⟩
  refine bs_iconst (v := 0) (pc' := 1) dX6_executeAll_0 (by decide) rfl ?_
  refine bs_istore_n (pc' := 2) (lv' := [(0, _), (1, _)]) dX6_executeAll_1 rfl rfl rfl ?_
  exact loop (zN (σ 21 0)) 0 σ (Nat.zero_add _) hI rfl rfl
theorem sm_runScript (hA : mOk y A) (hI : mInv σ) : mSp G h0 y A σ hs mX6_runScript 6 [] (mQ2 G h0 y A hs (s_run σ)) := by
  obtain ⟨r1, r2⟩ := read_ok hI
  have hn := r1.n
  have h3 := r1.2.2.1
  have h5 := r1.2.2.2.2
  refine bs_Sp.of (by decide) rfl ?_
  refine bs_aload_n (pc' := 1) dX6_runScript_0 rfl rfl rfl ?_
  refine bs_callV (N := mX6_isRead) (pc' := 4) dX6_runScript_1 km_X6_207 ko_X6_isRead (sm_isRead hA hI) mh_y rfl rfl rfl (by omega) (Nat.le_refl _) (Nat.le_refl _) rfl ?_
  rintro _ _ ⟨rfl, rfl⟩
  refine bs_if_ne (tgt := 15) (pc' := 7) dX6_runScript_4 rfl rfl (fun c4 => ?_) (fun c4 => ?_)
  · have e : s_run σ = ((s_exa (zN ((t_read σ).2 21 0)) 0 (ms_u (t_read σ).2 16 0 1)).1, ms_u (s_exa (zN ((t_read σ).2 21 0)) 0 (ms_u (t_read σ).2 16 0 1)).2 16 0 0) := by rw [s_run, if_pos (by rw [bI_n0] at c4; exact c4)]
    refine bs_aload_n (pc' := 16) dX6_runScript_15 rfl rfl rfl ?_
    refine bs_iconst (v := 1) (pc' := 17) dX6_runScript_16 (by decide) rfl ?_
    refine bm_put (pc' := 20) kf_X6_54 dX6_runScript_17 rfl rfl rfl rfl ?_
    refine bs_aload_n (pc' := 21) dX6_runScript_20 rfl rfl rfl ?_
    refine bs_callV (N := mX6_executeAll) (pc' := 24) dX6_runScript_21 km_X6_210 ko_X6_executeAll (sm_executeAll hA (mInv_u r1.1 (by decide)) r1.2.2.2.1 (by show zN ((t_read σ).2 21 0) ≤ 60; omega)) mh_y rfl rfl rfl (by omega) (Nat.le_refl _) (Nat.le_refl _) rfl ?_
    rintro _ _ ⟨rfl, rfl⟩
    refine bs_istore_n (pc' := 25) (lv' := [(0, _), (1, _)]) dX6_runScript_24 rfl rfl rfl ?_
    refine bs_aload_n (pc' := 26) dX6_runScript_25 rfl rfl rfl ?_
    refine bs_iconst (v := 0) (pc' := 27) dX6_runScript_26 (by decide) rfl ?_
    refine bm_put (pc' := 30) kf_X6_54 dX6_runScript_27 rfl rfl rfl rfl ?_
    refine bs_iload_n (pc' := 31) dX6_runScript_30 rfl rfl ?_
    exact bs_iret dX6_runScript_31 rfl ⟨by rw [e]; rfl, by rw [e]; rfl⟩
  · refine bs_bipush (v := (-10)) (pc' := 9) dX6_runScript_7 (by decide) rfl ?_
    refine bs_aload_n (pc' := 10) dX6_runScript_9 rfl rfl rfl ?_
    refine bs_getf (pc' := 13) kf_X6_159 dX6_runScript_10 mh_y rfl rfl ?_
    refine bs_isub (pc' := 14) dX6_runScript_13 rfl ?_
    have e : s_run σ = (-10 - (t_read σ).2 22 0, (t_read σ).2) := by rw [s_run, if_neg (by rw [bI_0] at c4; rw [c4]; decide)]
    exact bs_iret dX6_runScript_14 rfl ⟨by rw [e], by rw [e]⟩
theorem sm_mix {v : Int64} : mSp G h0 y A σ hs mX6_mix 0 [.long v] (mQv G h0 y A σ (mx hs v)) := by
  refine bs_Sp.of (by decide) rfl ?_
  refine bs_aload_n (pc' := 1) dX6_mix_0 rfl rfl rfl ?_
  refine bs_ldc2 (pc' := 4) kj_X6_213 dX6_mix_1 rfl ?_
  refine bs_aload_n (pc' := 5) dX6_mix_4 rfl rfl rfl ?_
  refine bs_getf (pc' := 8) kf_X6_215 dX6_mix_5 mh_y rfl rfl ?_
  refine bs_lmul (pc' := 9) dX6_mix_8 rfl ?_
  refine bs_lload_n (pc' := 10) dX6_mix_9 rfl rfl ?_
  refine bs_ladd (pc' := 11) dX6_mix_10 rfl ?_
  refine bm_putl (pc' := 14) kf_X6_215 dX6_mix_11 rfl ?_
  exact bs_vret dX6_mix_14 rfl ⟨rfl, rfl⟩
theorem sm_mixCell {c : Nat} (hA : mOk y A) (hI : mInv σ) (hc : c < 80) : mSp G h0 y A σ hs mX6_mixCell 1 [.int (nI c)] (mQv G h0 y A σ (d_cel σ c hs)) := by
  have hsz := hI.sz hc
  have hn := hsz.2
  refine bs_Sp.of (by decide) rfl ?_
  have e12 : (12 : Int32) * nI c = nI (12 * c) := pk_mul 12 c
  have eN : (12 : Int32) * nI c + σ 4 c = nI (12 * c + zN (σ 4 c)) := by rw [hsz.1, nI_12, ← hsz.1]
  have loop : ∀ f k h, k + f = zN (σ 4 c) → mB G h0 y A σ h mX6_mixCell 1 27 [(0, .ref y), (1, .int (nI c)), (2, .int (nI (12 * c + k)))] [] (mQv G h0 y A σ (d_itm (fun k => σ 5 (12 * c + k)) (fun k => σ 6 (12 * c + k)) (fun k => decide (0 < σ 7 (12 * c + k))) f k h)) := by
    intro f
    induction f with
    | zero =>
      intro k h hk
      refine bs_iload_n (pc' := 28) dX6_mixCell_27 rfl rfl ?_
      refine bs_bipush (v := 12) (pc' := 30) dX6_mixCell_28 (by decide) rfl ?_
      refine bs_iload_n (pc' := 31) dX6_mixCell_30 rfl rfl ?_
      refine bs_imul (pc' := 32) dX6_mixCell_31 rfl ?_
      refine bs_aload_n (pc' := 33) dX6_mixCell_32 rfl rfl rfl ?_
      refine bs_getf (pc' := 36) kf_X6_20 dX6_mixCell_33 mh_y rfl rfl ?_
      refine bs_iload_n (pc' := 37) dX6_mixCell_36 rfl rfl ?_
      refine bm_ald (pc' := 38) dX6_mixCell_37 hA rfl rfl c rfl hc rfl ?_
      refine bs_iadd (pc' := 39) dX6_mixCell_38 rfl ?_
      refine bs_icmp_ge (tgt := 88) (pc' := 42) dX6_mixCell_39 rfl rfl (fun _ => ?_) (fun c39 => absurd (by rw [eN]; exact nI_le (by omega) (by omega)) c39)
      exact bs_vret dX6_mixCell_88 rfl ⟨rfl, rfl⟩
    | succ f ih =>
      intro k h hk
      have j79 : ∀ z, z = b64 (decide (0 < σ 7 (12 * c + k))) → mB G h0 y A σ (mx (mx h (σ 5 (12 * c + k)).toInt64) (σ 6 (12 * c + k)).toInt64) mX6_mixCell 1 79 [(0, .ref y), (1, .int (nI c)), (2, .int (nI (12 * c + k)))] [.long z, .ref y] (mQv G h0 y A σ (d_itm (fun k => σ 5 (12 * c + k)) (fun k => σ 6 (12 * c + k)) (fun k => decide (0 < σ 7 (12 * c + k))) (f + 1) k h)) := by
        intro z hz
        subst hz
        refine bs_callV (N := mX6_mix) (pc' := 82) dX6_mixCell_79 km_X6_219 ko_X6_mix sm_mix mh_y rfl rfl rfl (by omega) (Nat.le_refl _) (Nat.le_refl _) rfl ?_
        rintro _ _ ⟨rfl, rfl⟩
        refine bs_iinc (pc' := 85) (lv' := [(0, _), (1, _), (2, _)]) dX6_mixCell_82 rfl (nI_i1 (12 * c + k)) rfl rfl rfl ?_
        refine bs_goto (tgt := 27) dX6_mixCell_85 rfl ?_
        exact ih (k + 1) _ (by omega)
      refine bs_iload_n (pc' := 28) dX6_mixCell_27 rfl rfl ?_
      refine bs_bipush (v := 12) (pc' := 30) dX6_mixCell_28 (by decide) rfl ?_
      refine bs_iload_n (pc' := 31) dX6_mixCell_30 rfl rfl ?_
      refine bs_imul (pc' := 32) dX6_mixCell_31 rfl ?_
      refine bs_aload_n (pc' := 33) dX6_mixCell_32 rfl rfl rfl ?_
      refine bs_getf (pc' := 36) kf_X6_20 dX6_mixCell_33 mh_y rfl rfl ?_
      refine bs_iload_n (pc' := 37) dX6_mixCell_36 rfl rfl ?_
      refine bm_ald (pc' := 38) dX6_mixCell_37 hA rfl rfl c rfl hc rfl ?_
      refine bs_iadd (pc' := 39) dX6_mixCell_38 rfl ?_
      refine bs_icmp_ge (tgt := 88) (pc' := 42) dX6_mixCell_39 rfl rfl (fun c39 => absurd c39 (by rw [eN]; exact nI_ge (by omega) (by omega))) (fun _ => ?_)
      refine bs_aload_n (pc' := 43) dX6_mixCell_42 rfl rfl rfl ?_
      refine bs_aload_n (pc' := 44) dX6_mixCell_43 rfl rfl rfl ?_
      refine bs_getf (pc' := 47) kf_X6_23 dX6_mixCell_44 mh_y rfl rfl ?_
      refine bs_iload_n (pc' := 48) dX6_mixCell_47 rfl rfl ?_
      refine bm_ald (pc' := 49) dX6_mixCell_48 hA rfl rfl (12 * c + k) rfl (by show _ < 960; omega) rfl ?_
      refine bs_i2l (pc' := 50) dX6_mixCell_49 rfl ?_
      refine bs_callV (N := mX6_mix) (pc' := 53) dX6_mixCell_50 km_X6_219 ko_X6_mix sm_mix mh_y rfl rfl rfl (by omega) (Nat.le_refl _) (Nat.le_refl _) rfl ?_
      rintro _ _ ⟨rfl, rfl⟩
      refine bs_aload_n (pc' := 54) dX6_mixCell_53 rfl rfl rfl ?_
      refine bs_aload_n (pc' := 55) dX6_mixCell_54 rfl rfl rfl ?_
      refine bs_getf (pc' := 58) kf_X6_26 dX6_mixCell_55 mh_y rfl rfl ?_
      refine bs_iload_n (pc' := 59) dX6_mixCell_58 rfl rfl ?_
      refine bm_ald (pc' := 60) dX6_mixCell_59 hA rfl rfl (12 * c + k) rfl (by show _ < 960; omega) rfl ?_
      refine bs_i2l (pc' := 61) dX6_mixCell_60 rfl ?_
      refine bs_callV (N := mX6_mix) (pc' := 64) dX6_mixCell_61 km_X6_219 ko_X6_mix sm_mix mh_y rfl rfl rfl (by omega) (Nat.le_refl _) (Nat.le_refl _) rfl ?_
      rintro _ _ ⟨rfl, rfl⟩
      refine bs_aload_n (pc' := 65) dX6_mixCell_64 rfl rfl rfl ?_
      refine bs_aload_n (pc' := 66) dX6_mixCell_65 rfl rfl rfl ?_
      refine bs_getf (pc' := 69) kf_X6_29 dX6_mixCell_66 mh_y rfl rfl ?_
      refine bs_iload_n (pc' := 70) dX6_mixCell_69 rfl rfl ?_
      refine bm_ald (pc' := 71) dX6_mixCell_70 hA rfl rfl (12 * c + k) rfl (by show _ < 960; omega) rfl ?_
      refine bs_if_le (tgt := 78) (pc' := 74) dX6_mixCell_71 rfl rfl (fun c71 => ?_) (fun c71 => ?_)
      · refine bs_lconst (v := 0) (pc' := 79) dX6_mixCell_78 (by decide) rfl ?_
        exact j79 _ (by first | (rw [decide_eq_false (Int32.not_lt.mpr c71)]; rfl) | (rw [decide_eq_true (Int32.not_le.mp c71)]; rfl))
      · refine bs_lconst (v := 1) (pc' := 75) dX6_mixCell_74 (by decide) rfl ?_
        refine bs_goto (tgt := 79) dX6_mixCell_75 rfl ?_
        exact j79 _ (by first | (rw [decide_eq_false (Int32.not_lt.mpr c71)]; rfl) | (rw [decide_eq_true (Int32.not_le.mp c71)]; rfl))
  refine bs_aload_n (pc' := 1) dX6_mixCell_0 rfl rfl rfl ?_
  refine bs_aload_n (pc' := 2) dX6_mixCell_1 rfl rfl rfl ?_
  refine bs_getf (pc' := 5) kf_X6_17 dX6_mixCell_2 mh_y rfl rfl ?_
  refine bs_iload_n (pc' := 6) dX6_mixCell_5 rfl rfl ?_
  refine bm_ald (pc' := 7) dX6_mixCell_6 hA rfl rfl c rfl hc rfl ?_
  refine bs_i2l (pc' := 8) dX6_mixCell_7 rfl ?_
  refine bs_callV (N := mX6_mix) (pc' := 11) dX6_mixCell_8 km_X6_219 ko_X6_mix sm_mix mh_y rfl rfl rfl (by omega) (Nat.le_refl _) (Nat.le_refl _) rfl ?_
  rintro _ _ ⟨rfl, rfl⟩
  refine bs_aload_n (pc' := 12) dX6_mixCell_11 rfl rfl rfl ?_
  refine bs_aload_n (pc' := 13) dX6_mixCell_12 rfl rfl rfl ?_
  refine bs_getf (pc' := 16) kf_X6_20 dX6_mixCell_13 mh_y rfl rfl ?_
  refine bs_iload_n (pc' := 17) dX6_mixCell_16 rfl rfl ?_
  refine bm_ald (pc' := 18) dX6_mixCell_17 hA rfl rfl c rfl hc rfl ?_
  refine bs_i2l (pc' := 19) dX6_mixCell_18 rfl ?_
  refine bs_callV (N := mX6_mix) (pc' := 22) dX6_mixCell_19 km_X6_219 ko_X6_mix sm_mix mh_y rfl rfl rfl (by omega) (Nat.le_refl _) (Nat.le_refl _) rfl ?_
  rintro _ _ ⟨rfl, rfl⟩
  refine bs_bipush (v := 12) (pc' := 24) dX6_mixCell_22 (by decide) rfl ?_
  refine bs_iload_n (pc' := 25) dX6_mixCell_24 rfl rfl ?_
  refine bs_imul (pc' := 26) dX6_mixCell_25 rfl ?_
  refine bs_topi _ e12 ?_
  refine bs_istore_n (pc' := 27) (lv' := [(0, _), (1, _), (2, _)]) dX6_mixCell_26 rfl rfl rfl ?_
  exact loop (zN (σ 4 c)) 0 _ (Nat.zero_add _)
theorem sm_digest (hA : mOk y A) (hI : mInv σ) : mSp G h0 y A σ hs mX6_digest 2 [] (fun v h' => v = some (.long (s_dig σ)) ∧ h' = mh G h0 y A σ (s_dig σ)) := by
  have hnA := hI.nA
  have hnP := hI.nP
  have hA10 := hnA.2
  have hP60 := hnP.2
  refine bs_Sp.of (by decide) rfl ?_
  -- the pointers
  have loop4 : ∀ f p h, p + f = zN (σ 8 0) → s_dig σ = d_pts σ f p h → mB G h0 y A σ h mX6_digest 2 169 [(0, .ref y), (1, .int (nI p))] [] (fun v h' => v = some (.long (s_dig σ)) ∧ h' = mh G h0 y A σ (s_dig σ)) := by
    intro f
    induction f with
    | zero =>
      intro p h hp e
      have e : s_dig σ = h := e
      refine bs_iload_n (pc' := 170) dX6_digest_169 rfl rfl ?_
      refine bs_aload_n (pc' := 171) dX6_digest_170 rfl rfl rfl ?_
      refine bs_getf (pc' := 174) kf_X6_64 dX6_digest_171 mh_y rfl rfl ?_
      refine bs_icmp_ge (tgt := 215) (pc' := 177) dX6_digest_174 rfl rfl (fun _ => ?_) (fun c174 => absurd (by rw [hnP.1]; exact nI_le (by omega) (by omega)) c174)
      refine bs_aload_n (pc' := 216) dX6_digest_215 rfl rfl rfl ?_
      refine bs_getf (pc' := 219) kf_X6_215 dX6_digest_216 mh_y rfl rfl ?_
      exact bs_lret dX6_digest_219 rfl ⟨by rw [e], by rw [e]⟩
    | succ f ih =>
      intro p h hp e
      refine bs_iload_n (pc' := 170) dX6_digest_169 rfl rfl ?_
      refine bs_aload_n (pc' := 171) dX6_digest_170 rfl rfl rfl ?_
      refine bs_getf (pc' := 174) kf_X6_64 dX6_digest_171 mh_y rfl rfl ?_
      refine bs_icmp_ge (tgt := 215) (pc' := 177) dX6_digest_174 rfl rfl (fun c174 => absurd c174 (by rw [hnP.1]; exact nI_ge (by omega) (by omega))) (fun _ => ?_)
      refine bs_aload_n (pc' := 178) dX6_digest_177 rfl rfl rfl ?_
      refine bs_aload_n (pc' := 179) dX6_digest_178 rfl rfl rfl ?_
      refine bs_getf (pc' := 182) kf_X6_32 dX6_digest_179 mh_y rfl rfl ?_
      refine bs_iload_n (pc' := 183) dX6_digest_182 rfl rfl ?_
      refine bm_ald (pc' := 184) dX6_digest_183 hA rfl rfl p rfl (by show _ < 60; omega) rfl ?_
      refine bs_i2l (pc' := 185) dX6_digest_184 rfl ?_
      refine bs_callV (N := mX6_mix) (pc' := 188) dX6_digest_185 km_X6_219 ko_X6_mix sm_mix mh_y rfl rfl rfl (by omega) (Nat.le_refl _) (Nat.le_refl _) rfl ?_
      rintro _ _ ⟨rfl, rfl⟩
      refine bs_aload_n (pc' := 189) dX6_digest_188 rfl rfl rfl ?_
      refine bs_aload_n (pc' := 190) dX6_digest_189 rfl rfl rfl ?_
      refine bs_getf (pc' := 193) kf_X6_35 dX6_digest_190 mh_y rfl rfl ?_
      refine bs_iload_n (pc' := 194) dX6_digest_193 rfl rfl ?_
      refine bm_ald (pc' := 195) dX6_digest_194 hA rfl rfl p rfl (by show _ < 60; omega) rfl ?_
      refine bs_i2l (pc' := 196) dX6_digest_195 rfl ?_
      refine bs_callV (N := mX6_mix) (pc' := 199) dX6_digest_196 km_X6_219 ko_X6_mix sm_mix mh_y rfl rfl rfl (by omega) (Nat.le_refl _) (Nat.le_refl _) rfl ?_
      rintro _ _ ⟨rfl, rfl⟩
      refine bs_aload_n (pc' := 200) dX6_digest_199 rfl rfl rfl ?_
      refine bs_aload_n (pc' := 201) dX6_digest_200 rfl rfl rfl ?_
      refine bs_iload_n (pc' := 202) dX6_digest_201 rfl rfl ?_
      refine bs_callV (N := mX6_liveOf) (pc' := 205) dX6_digest_202 km_X6_153 ko_X6_liveOf (sm_liveOf hA hI (by omega)) mh_y rfl rfl rfl (by omega) (Nat.le_refl _) (Nat.le_refl _) rfl ?_
      rintro _ _ ⟨rfl, rfl⟩
      refine bs_i2l (pc' := 206) dX6_digest_205 rfl ?_
      refine bs_callV (N := mX6_mix) (pc' := 209) dX6_digest_206 km_X6_219 ko_X6_mix sm_mix mh_y rfl rfl rfl (by omega) (Nat.le_refl _) (Nat.le_refl _) rfl ?_
      rintro _ _ ⟨rfl, rfl⟩
      refine bs_iinc (pc' := 212) (lv' := [(0, _), (1, _)]) dX6_digest_209 rfl (nI_i1 p) rfl rfl rfl ?_
      refine bs_goto (tgt := 169) dX6_digest_212 rfl ?_
      exact ih (p + 1) _ (by omega) e
  -- the cells of an allocation
  have loop3 : ∀ a, a < zN (σ 0 0) → ∀ (Q : Option Value → Hp → Prop) f i h, i + f = zN (σ 1 a) → mB G h0 y A σ (d_cls σ a f i h) mX6_digest 2 152 [(0, .ref y), (1, .int (nI a))] [] Q → mB G h0 y A σ h mX6_digest 2 126 [(0, .ref y), (1, .int (nI a)), (2, .int (nI i))] [] Q := by
    intro a ha Q f
    have hcl := (hI.cl ha).1
    have hcl2 := hcl.2
    induction f with
    | zero =>
      intro i h hi k
      refine bs_iload_n (pc' := 127) dX6_digest_126 rfl rfl ?_
      refine bs_aload_n (pc' := 128) dX6_digest_127 rfl rfl rfl ?_
      refine bs_getf (pc' := 131) kf_X6_7 dX6_digest_128 mh_y rfl rfl ?_
      refine bs_iload_n (pc' := 132) dX6_digest_131 rfl rfl ?_
      refine bm_ald (pc' := 133) dX6_digest_132 hA rfl rfl a rfl (by show _ < 10; omega) rfl ?_
      refine bs_icmp_ge (tgt := 152) (pc' := 136) dX6_digest_133 rfl rfl (fun _ => ?_) (fun c133 => absurd (by rw [hcl.1]; exact nI_le (by omega) (by omega)) c133)
      refine bs_sub (lv' := [(0, _), (1, _)]) [0, 1] rfl ?_
      exact k
    | succ f ih =>
      intro i h hi k
      refine bs_iload_n (pc' := 127) dX6_digest_126 rfl rfl ?_
      refine bs_aload_n (pc' := 128) dX6_digest_127 rfl rfl rfl ?_
      refine bs_getf (pc' := 131) kf_X6_7 dX6_digest_128 mh_y rfl rfl ?_
      refine bs_iload_n (pc' := 132) dX6_digest_131 rfl rfl ?_
      refine bm_ald (pc' := 133) dX6_digest_132 hA rfl rfl a rfl (by show _ < 10; omega) rfl ?_
      refine bs_icmp_ge (tgt := 152) (pc' := 136) dX6_digest_133 rfl rfl (fun c133 => absurd c133 (by rw [hcl.1]; exact nI_ge (by omega) (by omega))) (fun _ => ?_)
      refine bs_aload_n (pc' := 137) dX6_digest_136 rfl rfl rfl ?_
      refine bs_bipush (v := 8) (pc' := 139) dX6_digest_137 (by decide) rfl ?_
      refine bs_iload_n (pc' := 140) dX6_digest_139 rfl rfl ?_
      refine bs_imul (pc' := 141) dX6_digest_140 rfl ?_
      refine bs_iload_n (pc' := 142) dX6_digest_141 rfl rfl ?_
      refine bs_iadd (pc' := 143) dX6_digest_142 rfl ?_
      refine bs_topi _ (nI_8 a i) ?_
      refine bs_callV (N := mX6_mixCell) (pc' := 146) dX6_digest_143 km_X6_225 ko_X6_mixCell (sm_mixCell hA hI (by omega)) mh_y rfl rfl rfl (by omega) (Nat.le_refl _) (Nat.le_refl _) rfl ?_
      rintro _ _ ⟨rfl, rfl⟩
      refine bs_iinc (pc' := 149) (lv' := [(0, _), (1, _), (2, _)]) dX6_digest_146 rfl (nI_i1 i) rfl rfl rfl ?_
      refine bs_goto (tgt := 126) dX6_digest_149 rfl ?_
      exact ih (i + 1) _ (by omega) k
  -- the allocations
  have loop2 : ∀ f a h, a + f = zN (σ 0 0) → s_dig σ = d_pts σ (zN (σ 8 0)) 0 (mx (d_als σ f a h) (σ 8 0).toInt64) → mB G h0 y A σ h mX6_digest 2 87 [(0, .ref y), (1, .int (nI a))] [] (fun v h' => v = some (.long (s_dig σ)) ∧ h' = mh G h0 y A σ (s_dig σ)) := by
    intro f
    induction f with
    | zero =>
      intro a h ha e
      refine bs_iload_n (pc' := 88) dX6_digest_87 rfl rfl ?_
      refine bs_aload_n (pc' := 89) dX6_digest_88 rfl rfl rfl ?_
      refine bs_getf (pc' := 92) kf_X6_97 dX6_digest_89 mh_y rfl rfl ?_
      refine bs_icmp_ge (tgt := 158) (pc' := 95) dX6_digest_92 rfl rfl (fun _ => ?_) (fun c92 => absurd (by rw [hnA.1]; exact nI_le (by omega) (by omega)) c92)
      refine bs_aload_n (pc' := 159) dX6_digest_158 rfl rfl rfl ?_
      refine bs_aload_n (pc' := 160) dX6_digest_159 rfl rfl rfl ?_
      refine bs_getf (pc' := 163) kf_X6_64 dX6_digest_160 mh_y rfl rfl ?_
      refine bs_i2l (pc' := 164) dX6_digest_163 rfl ?_
      refine bs_callV (N := mX6_mix) (pc' := 167) dX6_digest_164 km_X6_219 ko_X6_mix sm_mix mh_y rfl rfl rfl (by omega) (Nat.le_refl _) (Nat.le_refl _) rfl ?_
      rintro _ _ ⟨rfl, rfl⟩
      refine bs_iconst (v := 0) (pc' := 168) dX6_digest_167 (by decide) rfl ?_
      refine bs_istore_n (pc' := 169) (lv' := [(0, _), (1, _)]) dX6_digest_168 rfl rfl rfl ?_
      exact loop4 (zN (σ 8 0)) 0 _ (Nat.zero_add _) e
    | succ f ih =>
      intro a h ha e
      have j121 : ∀ z, z = b64 (decide (¬ σ 2 a = 0)) → mB G h0 y A σ (mx h (σ 1 a).toInt64) mX6_digest 2 121 [(0, .ref y), (1, .int (nI a))] [.long z, .ref y] (fun v h' => v = some (.long (s_dig σ)) ∧ h' = mh G h0 y A σ (s_dig σ)) := by
        intro z hz
        subst hz
        have j152 : mB G h0 y A σ (d_al1 σ a h) mX6_digest 2 152 [(0, .ref y), (1, .int (nI a))] [] (fun v h' => v = some (.long (s_dig σ)) ∧ h' = mh G h0 y A σ (s_dig σ)) := by
          refine bs_iinc (pc' := 155) (lv' := [(0, _), (1, _)]) dX6_digest_152 rfl (nI_i1 a) rfl rfl rfl ?_
          refine bs_goto (tgt := 87) dX6_digest_155 rfl ?_
          exact ih (a + 1) _ (by omega) e
        refine bs_callV (N := mX6_mix) (pc' := 124) dX6_digest_121 km_X6_219 ko_X6_mix sm_mix mh_y rfl rfl rfl (by omega) (Nat.le_refl _) (Nat.le_refl _) rfl ?_
        rintro _ _ ⟨rfl, rfl⟩
        refine bs_iconst (v := 0) (pc' := 125) dX6_digest_124 (by decide) rfl ?_
        refine bs_istore_n (pc' := 126) (lv' := [(0, _), (1, _), (2, _)]) dX6_digest_125 rfl rfl rfl ?_
        exact loop3 a (by omega) _ (zN (σ 1 a)) 0 _ (Nat.zero_add _) j152
      refine bs_iload_n (pc' := 88) dX6_digest_87 rfl rfl ?_
      refine bs_aload_n (pc' := 89) dX6_digest_88 rfl rfl rfl ?_
      refine bs_getf (pc' := 92) kf_X6_97 dX6_digest_89 mh_y rfl rfl ?_
      refine bs_icmp_ge (tgt := 158) (pc' := 95) dX6_digest_92 rfl rfl (fun c92 => absurd c92 (by rw [hnA.1]; exact nI_ge (by omega) (by omega))) (fun _ => ?_)
      refine bs_aload_n (pc' := 96) dX6_digest_95 rfl rfl rfl ?_
      refine bs_aload_n (pc' := 97) dX6_digest_96 rfl rfl rfl ?_
      refine bs_getf (pc' := 100) kf_X6_7 dX6_digest_97 mh_y rfl rfl ?_
      refine bs_iload_n (pc' := 101) dX6_digest_100 rfl rfl ?_
      refine bm_ald (pc' := 102) dX6_digest_101 hA rfl rfl a rfl (by show _ < 10; omega) rfl ?_
      refine bs_i2l (pc' := 103) dX6_digest_102 rfl ?_
      refine bs_callV (N := mX6_mix) (pc' := 106) dX6_digest_103 km_X6_219 ko_X6_mix sm_mix mh_y rfl rfl rfl (by omega) (Nat.le_refl _) (Nat.le_refl _) rfl ?_
      rintro _ _ ⟨rfl, rfl⟩
      refine bs_aload_n (pc' := 107) dX6_digest_106 rfl rfl rfl ?_
      refine bs_aload_n (pc' := 108) dX6_digest_107 rfl rfl rfl ?_
      refine bs_getf (pc' := 111) kf_X6_13 dX6_digest_108 mh_y rfl rfl ?_
      refine bs_iload_n (pc' := 112) dX6_digest_111 rfl rfl ?_
      refine bm_zld (pc' := 113) dX6_digest_112 hA a rfl (by omega) rfl ?_
      refine bs_if_eq (tgt := 120) (pc' := 116) dX6_digest_113 rfl rfl (fun c113 => ?_) (fun c113 => ?_)
      · refine bs_lconst (v := 0) (pc' := 121) dX6_digest_120 (by decide) rfl ?_
        exact j121 _ (by first | (rw [decide_eq_false (fun q => q c113)]; rfl) | (rw [decide_eq_true c113]; rfl))
      · refine bs_lconst (v := 1) (pc' := 117) dX6_digest_116 (by decide) rfl ?_
        refine bs_goto (tgt := 121) dX6_digest_117 rfl ?_
        exact j121 _ (by first | (rw [decide_eq_false (fun q => q c113)]; rfl) | (rw [decide_eq_true c113]; rfl))
  -- the error counters
  have loop1 : ∀ f k h, k + f = 3 → d_err σ 3 0 12011 = d_err σ f k h → mB G h0 y A σ h mX6_digest 2 9 [(0, .ref y), (1, .int (nI k))] [] (fun v h' => v = some (.long (s_dig σ)) ∧ h' = mh G h0 y A σ (s_dig σ)) := by
    intro f
    induction f with
    | zero =>
      intro k h hk e
      have hk' : k = 3 := by omega
      subst hk'
      have e : d_err σ 3 0 12011 = h := e
      refine bs_iload_n (pc' := 10) dX6_digest_9 rfl rfl ?_
      refine bs_iconst (v := 3) (pc' := 11) dX6_digest_10 (by decide) rfl ?_
      refine bs_icmp_ge (tgt := 31) (pc' := 14) dX6_digest_11 rfl rfl (fun _ => ?_) (fun c11 => absurd (by decide) c11)
      refine bs_aload_n (pc' := 32) dX6_digest_31 rfl rfl rfl ?_
      refine bs_aload_n (pc' := 33) dX6_digest_32 rfl rfl rfl ?_
      refine bs_getf (pc' := 36) kf_X6_156 dX6_digest_33 mh_y rfl rfl ?_
      refine bs_i2l (pc' := 37) dX6_digest_36 rfl ?_
      refine bs_callV (N := mX6_mix) (pc' := 40) dX6_digest_37 km_X6_219 ko_X6_mix sm_mix mh_y rfl rfl rfl (by omega) (Nat.le_refl _) (Nat.le_refl _) rfl ?_
      rintro _ _ ⟨rfl, rfl⟩
      refine bs_aload_n (pc' := 41) dX6_digest_40 rfl rfl rfl ?_
      refine bs_aload_n (pc' := 42) dX6_digest_41 rfl rfl rfl ?_
      refine bs_getf (pc' := 45) kf_X6_58 dX6_digest_42 mh_y rfl rfl ?_
      refine bs_i2l (pc' := 46) dX6_digest_45 rfl ?_
      refine bs_callV (N := mX6_mix) (pc' := 49) dX6_digest_46 km_X6_219 ko_X6_mix sm_mix mh_y rfl rfl rfl (by omega) (Nat.le_refl _) (Nat.le_refl _) rfl ?_
      rintro _ _ ⟨rfl, rfl⟩
      refine bs_aload_n (pc' := 50) dX6_digest_49 rfl rfl rfl ?_
      refine bs_aload_n (pc' := 51) dX6_digest_50 rfl rfl rfl ?_
      refine bs_getf (pc' := 54) kf_X6_61 dX6_digest_51 mh_y rfl rfl ?_
      refine bs_i2l (pc' := 55) dX6_digest_54 rfl ?_
      refine bs_callV (N := mX6_mix) (pc' := 58) dX6_digest_55 km_X6_219 ko_X6_mix sm_mix mh_y rfl rfl rfl (by omega) (Nat.le_refl _) (Nat.le_refl _) rfl ?_
      rintro _ _ ⟨rfl, rfl⟩
      refine bs_aload_n (pc' := 59) dX6_digest_58 rfl rfl rfl ?_
      refine bs_aload_n (pc' := 60) dX6_digest_59 rfl rfl rfl ?_
      refine bs_getf (pc' := 63) kf_X6_38 dX6_digest_60 mh_y rfl rfl ?_
      refine bs_i2l (pc' := 64) dX6_digest_63 rfl ?_
      refine bs_callV (N := mX6_mix) (pc' := 67) dX6_digest_64 km_X6_219 ko_X6_mix sm_mix mh_y rfl rfl rfl (by omega) (Nat.le_refl _) (Nat.le_refl _) rfl ?_
      rintro _ _ ⟨rfl, rfl⟩
      refine bs_aload_n (pc' := 68) dX6_digest_67 rfl rfl rfl ?_
      refine bs_aload_n (pc' := 69) dX6_digest_68 rfl rfl rfl ?_
      refine bs_getf (pc' := 72) kf_X6_127 dX6_digest_69 mh_y rfl rfl ?_
      refine bs_i2l (pc' := 73) dX6_digest_72 rfl ?_
      refine bs_callV (N := mX6_mix) (pc' := 76) dX6_digest_73 km_X6_219 ko_X6_mix sm_mix mh_y rfl rfl rfl (by omega) (Nat.le_refl _) (Nat.le_refl _) rfl ?_
      rintro _ _ ⟨rfl, rfl⟩
      refine bs_aload_n (pc' := 77) dX6_digest_76 rfl rfl rfl ?_
      refine bs_aload_n (pc' := 78) dX6_digest_77 rfl rfl rfl ?_
      refine bs_getf (pc' := 81) kf_X6_97 dX6_digest_78 mh_y rfl rfl ?_
      refine bs_i2l (pc' := 82) dX6_digest_81 rfl ?_
      refine bs_callV (N := mX6_mix) (pc' := 85) dX6_digest_82 km_X6_219 ko_X6_mix sm_mix mh_y rfl rfl rfl (by omega) (Nat.le_refl _) (Nat.le_refl _) rfl ?_
      rintro _ _ ⟨rfl, rfl⟩
      refine bs_iconst (v := 0) (pc' := 86) dX6_digest_85 (by decide) rfl ?_
      refine bs_istore_n (pc' := 87) (lv' := [(0, _), (1, _)]) dX6_digest_86 rfl rfl rfl ?_
      refine loop2 (zN (σ 0 0)) 0 _ (Nat.zero_add _) ?_
      rw [s_dig, d_hd, e]
    | succ f ih =>
      intro k h hk e
      refine bs_iload_n (pc' := 10) dX6_digest_9 rfl rfl ?_
      refine bs_iconst (v := 3) (pc' := 11) dX6_digest_10 (by decide) rfl ?_
      refine bs_icmp_ge (tgt := 31) (pc' := 14) dX6_digest_11 rfl rfl (fun c11 => absurd c11 (by exact nI_ge (b := 3) (by omega) (by decide))) (fun _ => ?_)
      refine bs_aload_n (pc' := 15) dX6_digest_14 rfl rfl rfl ?_
      refine bs_aload_n (pc' := 16) dX6_digest_15 rfl rfl rfl ?_
      refine bs_getf (pc' := 19) kf_X6_42 dX6_digest_16 mh_y rfl rfl ?_
      refine bs_iload_n (pc' := 20) dX6_digest_19 rfl rfl ?_
      refine bm_ald (pc' := 21) dX6_digest_20 hA rfl rfl k rfl (by show _ < 3; omega) rfl ?_
      refine bs_i2l (pc' := 22) dX6_digest_21 rfl ?_
      refine bs_callV (N := mX6_mix) (pc' := 25) dX6_digest_22 km_X6_219 ko_X6_mix sm_mix mh_y rfl rfl rfl (by omega) (Nat.le_refl _) (Nat.le_refl _) rfl ?_
      rintro _ _ ⟨rfl, rfl⟩
      refine bs_iinc (pc' := 28) (lv' := [(0, _), (1, _)]) dX6_digest_25 rfl (nI_i1 k) rfl rfl rfl ?_
      refine bs_goto (tgt := 9) dX6_digest_28 rfl ?_
      exact ih (k + 1) _ (by omega) e
  refine bs_aload_n (pc' := 1) dX6_digest_0 rfl rfl rfl ?_
  refine bs_ldc2 (pc' := 4) kj_X6_223 dX6_digest_1 rfl ?_
  refine bm_putl (pc' := 7) kf_X6_215 dX6_digest_4 rfl ?_
  refine bs_iconst (v := 0) (pc' := 8) dX6_digest_7 (by decide) rfl ?_
  refine bs_istore_n (pc' := 9) (lv' := [(0, _), (1, _)]) dX6_digest_8 rfl rfl rfl ?_
  exact loop1 3 0 _ rfl rfl
end Model7
