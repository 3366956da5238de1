section Model6
variable {G : GG} {h0 : Hp} {y : Nat} {A : Nat → Nat} {σ : MS} {hs : Int64}
theorem sm_isAt {lo hi : Int32} (hA : mOk y A) (h : pOk σ) : mSp G h0 y A σ hs mX6_isAt 1 [.int lo, .int hi] (mQi G h0 y A σ hs (bI (isAt σ (pA σ) lo hi))) := by
  have hn := h.n
  have h22 := h.2.1
  have h18 := h.1.ln.1
  have hlt : ∀ q : σ 18 0 ≤ σ 22 0, ¬ pA σ < pN σ := fun q r => by
    rw [h22, h18] at q
    exact nI_ge r (by omega) q
  refine bs_Sp.of (by decide) rfl ?_
  refine bs_aload_n (pc' := 1) dX6_isAt_0 rfl rfl rfl ?_
  refine bs_getf (pc' := 4) kf_X6_159 dX6_isAt_1 mh_y rfl rfl ?_
  refine bs_aload_n (pc' := 5) dX6_isAt_4 rfl rfl rfl ?_
  refine bs_getf (pc' := 8) kf_X6_156 dX6_isAt_5 mh_y rfl rfl ?_
  refine bs_icmp_ge (tgt := 32) (pc' := 11) dX6_isAt_8 rfl rfl (fun c8 => ?_) (fun c8 => ?_)
  · refine bs_iconst (v := 0) (pc' := 33) dX6_isAt_32 (by decide) rfl ?_
    exact bs_zret dX6_isAt_33 rfl (by decide) ⟨by first | (rw [isAt, decide_eq_false (hlt c8)]; rfl) | (first | (rw [bI_n0] at c25; rw [isAt, decide_eq_true ha, c25]; rfl) | (rw [bI_0] at c25; rw [isAt, decide_eq_true ha, c25]; rfl)), rfl⟩
  · have ha : pA σ < pN σ := by
      rcases Nat.lt_or_ge (pA σ) (pN σ) with q | q
      · exact q
      · exact absurd (by rw [h22, h18]; exact nI_le q (by have := h.2.2.1; omega)) c8
    refine bs_aload_n (pc' := 12) dX6_isAt_11 rfl rfl rfl ?_
    refine bs_getf (pc' := 15) kf_X6_45 dX6_isAt_12 mh_y rfl rfl ?_
    refine bs_aload_n (pc' := 16) dX6_isAt_15 rfl rfl rfl ?_
    refine bs_getf (pc' := 19) kf_X6_159 dX6_isAt_16 mh_y rfl rfl ?_
    refine bm_ald (pc' := 20) dX6_isAt_19 hA rfl rfl (pA σ) h22 (by show _ < 120; omega) rfl ?_
    refine bs_iload_n (pc' := 21) dX6_isAt_20 rfl rfl ?_
    refine bs_iload_n (pc' := 22) dX6_isAt_21 rfl rfl ?_
    refine bs_callS (N := mX6_in) (pc' := 25) dX6_isAt_22 km_X6_67 ko_X6_in sm_in rfl rfl rfl (by omega) (Nat.le_refl _) (Nat.le_refl _) rfl ?_
    rintro _ _ ⟨rfl, rfl⟩
    refine bs_if_eq (tgt := 32) (pc' := 28) dX6_isAt_25 rfl rfl (fun c25 => ?_) (fun c25 => ?_)
    · refine bs_iconst (v := 0) (pc' := 33) dX6_isAt_32 (by decide) rfl ?_
      exact bs_zret dX6_isAt_33 rfl (by decide) ⟨by first | (rw [isAt, decide_eq_false (hlt c8)]; rfl) | (first | (rw [bI_n0] at c25; rw [isAt, decide_eq_true ha, c25]; rfl) | (rw [bI_0] at c25; rw [isAt, decide_eq_true ha, c25]; rfl)), rfl⟩
    · refine bs_iconst (v := 1) (pc' := 29) dX6_isAt_28 (by decide) rfl ?_
      refine bs_goto (tgt := 33) dX6_isAt_29 rfl ?_
      exact bs_zret dX6_isAt_33 rfl (by decide) ⟨by first | (rw [isAt, decide_eq_false (hlt c8)]; rfl) | (first | (rw [bI_n0] at c25; rw [isAt, decide_eq_true ha, c25]; rfl) | (rw [bI_0] at c25; rw [isAt, decide_eq_true ha, c25]; rfl)), rfl⟩
theorem at32 {a : Nat} : isAt σ a 32 32 = (decide (a < pN σ) && decide (σ 17 a = 32)) := by
  unfold isAt
  congr 1
  rw [decide_eq_decide]
  constructor
  · rintro ⟨h1, h2⟩; exact Int32.le_antisymm h2 h1
  · intro h; rw [h]; exact ⟨Int32.le_refl _, Int32.le_refl _⟩
theorem sm_blanks (hA : mOk y A) (h : pOk σ) : mSp G h0 y A σ hs mX6_blanks 2 [] (mQv G h0 y A (t_bl σ) hs) := by
  have hn := h.n
  refine bs_Sp.of (by decide) rfl ?_
  have loop : ∀ f a, f = pN σ - a → pA σ ≤ a → a ≤ pN σ → mB G h0 y A (sAt σ a) hs mX6_blanks 2 0 [(0, .ref y)] [] (mQv G h0 y A (sAt σ (skp (σ 17) f a)) hs) := by
    intro f
    induction f with
    | zero =>
      intro a hf h1 h2
      have hk := pOk_at h h1 h2
      have e : isAt (sAt σ a) (pA (sAt σ a)) 32 32 = false := by
        rw [sAt_A (by omega), at32, decide_eq_false (by show ¬ a < pN σ; omega)]
        rfl
      refine bs_aload_n (pc' := 1) dX6_blanks_0 rfl rfl rfl ?_
      refine bs_bipush (v := 32) (pc' := 3) dX6_blanks_1 (by decide) rfl ?_
      refine bs_bipush (v := 32) (pc' := 5) dX6_blanks_3 (by decide) rfl ?_
      refine bs_callV (N := mX6_isAt) (pc' := 8) dX6_blanks_5 km_X6_162 ko_X6_isAt (sm_isAt hA hk) mh_y rfl rfl rfl (by omega) (Nat.le_refl _) (Nat.le_refl _) rfl ?_
      rintro _ _ ⟨rfl, rfl⟩
      refine bs_if_eq (tgt := 24) (pc' := 11) dX6_blanks_8 rfl rfl (fun _ => ?_) (fun c8 => absurd (by rw [e]; rfl) c8)
      exact bs_vret dX6_blanks_24 rfl ⟨rfl, rfl⟩
    | succ f ih =>
      intro a hf h1 h2
      have hk := pOk_at h h1 h2
      have e : isAt (sAt σ a) (pA (sAt σ a)) 32 32 = decide (σ 17 a = 32) := by
        rw [sAt_A (by omega), at32, decide_eq_true (by show a < pN σ; omega)]
        exact Bool.true_and _
      by_cases ht : σ 17 a = 32
      · have e2 : skp (σ 17) (f + 1) a = skp (σ 17) f (a + 1) := by rw [skp, if_pos ht]
        rw [e2]
        refine bs_aload_n (pc' := 1) dX6_blanks_0 rfl rfl rfl ?_
        refine bs_bipush (v := 32) (pc' := 3) dX6_blanks_1 (by decide) rfl ?_
        refine bs_bipush (v := 32) (pc' := 5) dX6_blanks_3 (by decide) rfl ?_
        refine bs_callV (N := mX6_isAt) (pc' := 8) dX6_blanks_5 km_X6_162 ko_X6_isAt (sm_isAt hA hk) mh_y rfl rfl rfl (by omega) (Nat.le_refl _) (Nat.le_refl _) rfl ?_
        rintro _ _ ⟨rfl, rfl⟩
        refine bs_if_eq (tgt := 24) (pc' := 11) dX6_blanks_8 rfl rfl (fun c8 => absurd c8 (by rw [e, decide_eq_true ht]; decide)) (fun _ => ?_)
        refine bs_aload_n (pc' := 12) dX6_blanks_11 rfl rfl rfl ?_
        refine bs_dup (pc' := 13) dX6_blanks_12 rfl rfl ?_
        refine bs_getf (pc' := 16) kf_X6_159 dX6_blanks_13 mh_y rfl rfl ?_
        refine bs_iconst (v := 1) (pc' := 17) dX6_blanks_16 (by decide) rfl ?_
        refine bs_iadd (pc' := 18) dX6_blanks_17 rfl ?_
        refine bm_put (pc' := 21) kf_X6_159 dX6_blanks_18 rfl rfl rfl rfl ?_
        refine bs_goto (tgt := 0) dX6_blanks_21 rfl ?_
        have e3 : ms_u (sAt σ a) 22 0 (sAt σ a 22 0 + 1) = sAt σ (a + 1) := by
          rw [sAt_22, nI_1]
          exact sAt_s σ a (a + 1)
        rw [e3]
        exact ih (a + 1) (by omega) (by omega) (by omega)
      · have e2 : skp (σ 17) (f + 1) a = a := by rw [skp, if_neg ht]
        rw [e2]
        refine bs_aload_n (pc' := 1) dX6_blanks_0 rfl rfl rfl ?_
        refine bs_bipush (v := 32) (pc' := 3) dX6_blanks_1 (by decide) rfl ?_
        refine bs_bipush (v := 32) (pc' := 5) dX6_blanks_3 (by decide) rfl ?_
        refine bs_callV (N := mX6_isAt) (pc' := 8) dX6_blanks_5 km_X6_162 ko_X6_isAt (sm_isAt hA hk) mh_y rfl rfl rfl (by omega) (Nat.le_refl _) (Nat.le_refl _) rfl ?_
        rintro _ _ ⟨rfl, rfl⟩
        refine bs_if_eq (tgt := 24) (pc' := 11) dX6_blanks_8 rfl rfl (fun _ => ?_) (fun c8 => absurd (by rw [e, decide_eq_false ht]; rfl) c8)
        exact bs_vret dX6_blanks_24 rfl ⟨rfl, rfl⟩
  have l := loop (pN σ - pA σ) (pA σ) rfl (Nat.le_refl _) h.2.2.1
  rw [h.e] at l
  exact l
theorem sm_takesNumber {to : Nat} (hA : mOk y A) (h : pOk σ) (hto : to < 180) : mSp G h0 y A σ hs mX6_takesNumber 3 [.int (nI to)] (mQi G h0 y A (t_num σ to).2 hs (bI (t_num σ to).1)) := by
  obtain ⟨k1, k2, k3⟩ := pOk_bl h
  refine bs_Sp.of (by decide) rfl ?_
  have j4 : mB G h0 y A (t_bl σ) hs mX6_takesNumber 3 4 [(0, .ref y), (1, .int (nI to))] [] (mQi G h0 y A (t_num σ to).2 hs (bI (t_num σ to).1)) := by
    unfold t_num
    generalize t_bl σ = τ at k1 ⊢
    have hn := k1.n
    have hle := k1.2.2.1
    have h22 : τ 22 0 = nI (pA τ) := k1.2.1
    -- the end, with the digits read
    have j63 : ∀ a v, pA τ ≤ a → a ≤ pN τ → mB G h0 y A (sAt τ a) hs mX6_takesNumber 3 63 [(0, .ref y), (1, .int (nI to)), (2, .int (nI (pA τ))), (3, .int v)] [] (mQi G h0 y A (ms_u (sAt τ a) 20 to v) hs (bI (decide (pA τ < a) && !dg τ a))) := by
      intro a v h1 h2
      have hk : pOk (ms_u (sAt τ a) 20 to v) := pOk_u (pOk_at k1 h1 h2) (by decide)
      have eA : pA (ms_u (sAt τ a) 20 to v) = a := sAt_A (σ := τ) (by omega)
      refine bs_aload_n (pc' := 64) dX6_takesNumber_63 rfl rfl rfl ?_
      refine bs_getf (pc' := 67) kf_X6_51 dX6_takesNumber_64 mh_y rfl rfl ?_
      refine bs_iload_n (pc' := 68) dX6_takesNumber_67 rfl rfl ?_
      refine bs_iload_n (pc' := 69) dX6_takesNumber_68 rfl rfl ?_
      refine bm_ast (pc' := 70) dX6_takesNumber_69 hA rfl rfl to rfl hto rfl ?_
      refine bs_aload_n (pc' := 71) dX6_takesNumber_70 rfl rfl rfl ?_
      refine bs_getf (pc' := 74) kf_X6_159 dX6_takesNumber_71 mh_y rfl rfl ?_
      refine bs_iload_n (pc' := 75) dX6_takesNumber_74 rfl rfl ?_
      refine bs_icmp_le (tgt := 93) (pc' := 78) dX6_takesNumber_75 rfl rfl (fun c75 => ?_) (fun c75 => ?_)
      · refine bs_iconst (v := 0) (pc' := 94) dX6_takesNumber_93 (by decide) rfl ?_
        exact bs_zret dX6_takesNumber_94 rfl (by decide) ⟨by first | (rw [show ms_u (sAt τ a) 20 to v 22 0 = nI a from rfl, nI_leI (by omega) (by omega)] at c75; rw [decide_eq_false (by omega)]; rfl) | (rw [show ms_u (sAt τ a) 20 to v 22 0 = nI a from rfl, nI_leI (by omega) (by omega)] at c75; rw [decide_eq_true (by omega)]; first | (rw [bI_n0] at c86; have c86' : dg τ a = true := c86; rw [c86']; rfl) | (rw [bI_0] at c86; have c86' : dg τ a = false := c86; rw [c86']; rfl)), rfl⟩
      · refine bs_aload_n (pc' := 79) dX6_takesNumber_78 rfl rfl rfl ?_
        refine bs_bipush (v := 48) (pc' := 81) dX6_takesNumber_79 (by decide) rfl ?_
        refine bs_bipush (v := 57) (pc' := 83) dX6_takesNumber_81 (by decide) rfl ?_
        refine bs_callV (N := mX6_isAt) (pc' := 86) dX6_takesNumber_83 km_X6_162 ko_X6_isAt (sm_isAt hA hk) mh_y rfl rfl rfl (by omega) (Nat.le_refl _) (Nat.le_refl _) rfl ?_
        rintro _ _ ⟨rfl, rfl⟩
        rw [eA]
        refine bs_if_ne (tgt := 93) (pc' := 89) dX6_takesNumber_86 rfl rfl (fun c86 => ?_) (fun c86 => ?_)
        · refine bs_iconst (v := 0) (pc' := 94) dX6_takesNumber_93 (by decide) rfl ?_
          exact bs_zret dX6_takesNumber_94 rfl (by decide) ⟨by first | (rw [show ms_u (sAt τ a) 20 to v 22 0 = nI a from rfl, nI_leI (by omega) (by omega)] at c75; rw [decide_eq_false (by omega)]; rfl) | (rw [show ms_u (sAt τ a) 20 to v 22 0 = nI a from rfl, nI_leI (by omega) (by omega)] at c75; rw [decide_eq_true (by omega)]; first | (rw [bI_n0] at c86; have c86' : dg τ a = true := c86; rw [c86']; rfl) | (rw [bI_0] at c86; have c86' : dg τ a = false := c86; rw [c86']; rfl)), rfl⟩
        · refine bs_iconst (v := 1) (pc' := 90) dX6_takesNumber_89 (by decide) rfl ?_
          refine bs_goto (tgt := 94) dX6_takesNumber_90 rfl ?_
          exact bs_zret dX6_takesNumber_94 rfl (by decide) ⟨by first | (rw [show ms_u (sAt τ a) 20 to v 22 0 = nI a from rfl, nI_leI (by omega) (by omega)] at c75; rw [decide_eq_false (by omega)]; rfl) | (rw [show ms_u (sAt τ a) 20 to v 22 0 = nI a from rfl, nI_leI (by omega) (by omega)] at c75; rw [decide_eq_true (by omega)]; first | (rw [bI_n0] at c86; have c86' : dg τ a = true := c86; rw [c86']; rfl) | (rw [bI_0] at c86; have c86' : dg τ a = false := c86; rw [c86']; rfl)), rfl⟩
    have st : ∀ a v, pA τ ≤ a → a ≤ pN τ → a < pA τ + 2 → (Q : Option Value → Hp → Prop) → (dg τ a = true → mB G h0 y A (sAt τ (a + 1)) hs mX6_takesNumber 3 11 [(0, .ref y), (1, .int (nI to)), (2, .int (nI (pA τ))), (3, .int (10 * v + τ 17 a - 48))] [] Q) → (dg τ a = false → mB G h0 y A (sAt τ a) hs mX6_takesNumber 3 63 [(0, .ref y), (1, .int (nI to)), (2, .int (nI (pA τ))), (3, .int v)] [] Q) → mB G h0 y A (sAt τ a) hs mX6_takesNumber 3 11 [(0, .ref y), (1, .int (nI to)), (2, .int (nI (pA τ))), (3, .int v)] [] Q := by
      intro a v h1 h2 h3 Q ky kn
      have hk := pOk_at k1 h1 h2
      have eA : pA (sAt τ a) = a := sAt_A (by omega)
      have e2 : nI (pA τ) + 2 = nI (pA τ + 2) := nI_add (pA τ) 2
      refine bs_aload_n (pc' := 12) dX6_takesNumber_11 rfl rfl rfl ?_
      refine bs_getf (pc' := 15) kf_X6_159 dX6_takesNumber_12 mh_y rfl rfl ?_
      refine bs_iload_n (pc' := 16) dX6_takesNumber_15 rfl rfl ?_
      refine bs_iconst (v := 2) (pc' := 17) dX6_takesNumber_16 (by decide) rfl ?_
      refine bs_iadd (pc' := 18) dX6_takesNumber_17 rfl ?_
      refine bs_icmp_ge (tgt := 63) (pc' := 21) dX6_takesNumber_18 rfl rfl (fun c18 => absurd c18 (by rw [e2, sAt_22]; exact nI_ge (by omega) (by omega))) (fun _ => ?_)
      refine bs_aload_n (pc' := 22) dX6_takesNumber_21 rfl rfl rfl ?_
      refine bs_bipush (v := 48) (pc' := 24) dX6_takesNumber_22 (by decide) rfl ?_
      refine bs_bipush (v := 57) (pc' := 26) dX6_takesNumber_24 (by decide) rfl ?_
      refine bs_callV (N := mX6_isAt) (pc' := 29) dX6_takesNumber_26 km_X6_162 ko_X6_isAt (sm_isAt hA hk) mh_y rfl rfl rfl (by omega) (Nat.le_refl _) (Nat.le_refl _) rfl ?_
      rintro _ _ ⟨rfl, rfl⟩
      rw [eA]
      refine bs_if_eq (tgt := 63) (pc' := 32) dX6_takesNumber_29 rfl rfl (fun c29 => ?_) (fun c29 => ?_)
      · rw [bI_0] at c29
        exact kn c29
      · rw [bI_n0] at c29
        have c29' : dg τ a = true := c29
        have hlt := dg_lt c29'
        refine bs_bipush (v := 10) (pc' := 34) dX6_takesNumber_32 (by decide) rfl ?_
        refine bs_iload_n (pc' := 35) dX6_takesNumber_34 rfl rfl ?_
        refine bs_imul (pc' := 36) dX6_takesNumber_35 rfl ?_
        refine bs_aload_n (pc' := 37) dX6_takesNumber_36 rfl rfl rfl ?_
        refine bs_getf (pc' := 40) kf_X6_45 dX6_takesNumber_37 mh_y rfl rfl ?_
        refine bs_aload_n (pc' := 41) dX6_takesNumber_40 rfl rfl rfl ?_
        refine bs_getf (pc' := 44) kf_X6_159 dX6_takesNumber_41 mh_y rfl rfl ?_
        refine bm_ald (pc' := 45) dX6_takesNumber_44 hA rfl rfl a sAt_22 (by show _ < 120; omega) rfl ?_
        refine bs_iadd (pc' := 46) dX6_takesNumber_45 rfl ?_
        refine bs_bipush (v := 48) (pc' := 48) dX6_takesNumber_46 (by decide) rfl ?_
        refine bs_isub (pc' := 49) dX6_takesNumber_48 rfl ?_
        refine bs_istore_n (pc' := 50) (lv' := [(0, _), (1, _), (2, _), (3, _)]) dX6_takesNumber_49 rfl rfl rfl ?_
        refine bs_aload_n (pc' := 51) dX6_takesNumber_50 rfl rfl rfl ?_
        refine bs_dup (pc' := 52) dX6_takesNumber_51 rfl rfl ?_
        refine bs_getf (pc' := 55) kf_X6_159 dX6_takesNumber_52 mh_y rfl rfl ?_
        refine bs_iconst (v := 1) (pc' := 56) dX6_takesNumber_55 (by decide) rfl ?_
        refine bs_iadd (pc' := 57) dX6_takesNumber_56 rfl ?_
        refine bm_put (pc' := 60) kf_X6_159 dX6_takesNumber_57 rfl rfl rfl rfl ?_
        refine bs_goto (tgt := 11) dX6_takesNumber_60 rfl ?_
        have e3 : ms_u (sAt τ a) 22 0 (sAt τ a 22 0 + 1) = sAt τ (a + 1) := by
          rw [sAt_22, nI_1]
          exact sAt_s τ a (a + 1)
        rw [e3]
        exact ky c29'
    have ex : ∀ v, pA τ + 2 ≤ pN τ → (Q : Option Value → Hp → Prop) → mB G h0 y A (sAt τ (pA τ + 2)) hs mX6_takesNumber 3 63 [(0, .ref y), (1, .int (nI to)), (2, .int (nI (pA τ))), (3, .int v)] [] Q → mB G h0 y A (sAt τ (pA τ + 2)) hs mX6_takesNumber 3 11 [(0, .ref y), (1, .int (nI to)), (2, .int (nI (pA τ))), (3, .int v)] [] Q := by
      intro v h1 Q k
      have e2 : nI (pA τ) + 2 = nI (pA τ + 2) := nI_add (pA τ) 2
      refine bs_aload_n (pc' := 12) dX6_takesNumber_11 rfl rfl rfl ?_
      refine bs_getf (pc' := 15) kf_X6_159 dX6_takesNumber_12 mh_y rfl rfl ?_
      refine bs_iload_n (pc' := 16) dX6_takesNumber_15 rfl rfl ?_
      refine bs_iconst (v := 2) (pc' := 17) dX6_takesNumber_16 (by decide) rfl ?_
      refine bs_iadd (pc' := 18) dX6_takesNumber_17 rfl ?_
      refine bs_icmp_ge (tgt := 63) (pc' := 21) dX6_takesNumber_18 rfl rfl (fun _ => ?_) (fun c18 => absurd (by rw [e2, sAt_22]; exact nI_le (Nat.le_refl _) (by omega)) c18)
      exact k
    have main : mB G h0 y A (sAt τ (pA τ)) hs mX6_takesNumber 3 11 [(0, .ref y), (1, .int (nI to)), (2, .int (nI (pA τ))), (3, .int 0)] [] (mQi G h0 y A (t_dig τ to (pA τ)).2 hs (bI (t_dig τ to (pA τ)).1)) := by
      refine st (pA τ) 0 (Nat.le_refl _) hle (by omega) _ (fun d0 => ?_) (fun d0 => ?_)
      · have := dg_lt d0
        refine st (pA τ + 1) _ (by omega) (by omega) (by omega) _ (fun d1 => ?_) (fun d1 => ?_)
        · have := dg_lt d1
          have e : t_dig τ to (pA τ) = (!dg τ (pA τ + 2), ms_u (sAt τ (pA τ + 2)) 20 to (10 * (10 * 0 + τ 17 (pA τ) - 48) + τ 17 (pA τ + 1) - 48)) := by rw [t_dig, if_pos d0, if_pos d1]
          rw [e]
          refine ex _ (by omega) _ ?_
          have l := j63 (pA τ + 2) (10 * (10 * 0 + τ 17 (pA τ) - 48) + τ 17 (pA τ + 1) - 48) (by omega) (by omega)
          rw [decide_eq_true (by omega), Bool.true_and] at l
          exact l
        · have e : t_dig τ to (pA τ) = (true, ms_u (sAt τ (pA τ + 1)) 20 to (10 * 0 + τ 17 (pA τ) - 48)) := by rw [t_dig, if_pos d0, if_neg (by rw [d1]; decide)]
          rw [e]
          have l := j63 (pA τ + 1) (10 * 0 + τ 17 (pA τ) - 48) (by omega) (by omega)
          rw [decide_eq_true (by omega), d1] at l
          exact l
      · have e : t_dig τ to (pA τ) = (false, ms_u (sAt τ (pA τ)) 20 to 0) := by rw [t_dig, if_neg (by rw [d0]; decide)]
        rw [e]
        have l := j63 (pA τ) 0 (Nat.le_refl _) hle
        rw [decide_eq_false (by omega)] at l
        exact l
    rw [k1.e, ← h22] at main
    refine bs_aload_n (pc' := 5) dX6_takesNumber_4 rfl rfl rfl ?_
    refine bs_getf (pc' := 8) kf_X6_159 dX6_takesNumber_5 mh_y rfl rfl ?_
    refine bs_istore_n (pc' := 9) (lv' := [(0, _), (1, _), (2, _)]) dX6_takesNumber_8 rfl rfl rfl ?_
    refine bs_iconst (v := 0) (pc' := 10) dX6_takesNumber_9 (by decide) rfl ?_
    refine bs_istore_n (pc' := 11) (lv' := [(0, _), (1, _), (2, _), (3, _)]) dX6_takesNumber_10 rfl rfl rfl ?_
    exact main
  refine bs_aload_n (pc' := 1) dX6_takesNumber_0 rfl rfl rfl ?_
  refine bs_callV (N := mX6_blanks) (pc' := 4) dX6_takesNumber_1 km_X6_165 ko_X6_blanks (sm_blanks hA h) mh_y rfl rfl rfl (by omega) (Nat.le_refl _) (Nat.le_refl _) rfl ?_
  rintro _ _ ⟨rfl, rfl⟩
  exact j4
end Model6
