section Script1
variable {G : GG} {h : Hp} {o x l r : Nat} {ψ : MS}
abbrev sQ (G : GG) (h : Hp) (o x l r : Nat) (ψ : MS) (z : Int32) : Option Value → Hp → Prop := fun v h' => v = some (.int z) ∧ h' = skH G h o x l r ψ
abbrev sB (G : GG) (h : Hp) (o x l r : Nat) (ψ : MS) (M : MI) (d pc : Nat) (lv : List (Nat × Value)) (st : List Value) (Q : Option Value → Hp → Prop) : Prop := bs_B G (fun _ => True) M d 0 0 (skH G h o x l r ψ) pc lv st Q
abbrev sSp (G : GG) (h : Hp) (o x l r : Nat) (ψ : MS) (M : MI) (d : Nat) (vs : List Value) (Q : Option Value → Hp → Prop) : Prop := bs_Sp G M d 0 0 (.ref o :: vs) (skH G h o x l r ψ) Q
theorem ss_skipSpaces (hD : d4 o x l r) (hp : pOk ψ) : sSp G h o x l r ψ mX4_skipSpaces 0 [] (fun v h' => v = none ∧ h' = skH G h o x l r (t_bl ψ)) := by
  have hn := hp.n
  have h18 := hp.1.ln.1
  refine bs_Sp.of (by decide) rfl ?_
  have loop : ∀ f a, f = pN ψ - a → pA ψ ≤ a → a ≤ pN ψ → sB G h o x l r (sAt ψ a) mX4_skipSpaces 0 0 [(0, .ref o)] [] (fun v h' => v = none ∧ h' = skH G h o x l r (sAt ψ (skp (ψ 17) f a))) := by
    intro f
    induction f with
    | zero =>
      intro a hf h1 h2
      refine bs_aload_n (pc' := 1) dX4_skipSpaces_0 rfl rfl rfl ?_
      refine bs_getf (pc' := 4) kf_X4_28 dX4_skipSpaces_1 sk_o rfl rfl ?_
      refine bs_aload_n (pc' := 5) dX4_skipSpaces_4 rfl rfl rfl ?_
      refine bs_getf (pc' := 8) kf_X4_21 dX4_skipSpaces_5 sk_o rfl rfl ?_
      refine bs_icmp_ge (tgt := 38) (pc' := 11) dX4_skipSpaces_8 rfl rfl (fun _ => ?_) (fun c8 => absurd (by rw [sAt_22, sAt_n (by decide), h18]; exact nI_le (by show pN ψ ≤ a; omega) (by omega)) c8)
      exact bs_vret dX4_skipSpaces_38 rfl ⟨rfl, rfl⟩
    | succ f ih =>
      intro a hf h1 h2
      have hlt : a < pN ψ := by omega
      refine bs_aload_n (pc' := 1) dX4_skipSpaces_0 rfl rfl rfl ?_
      refine bs_getf (pc' := 4) kf_X4_28 dX4_skipSpaces_1 sk_o rfl rfl ?_
      refine bs_aload_n (pc' := 5) dX4_skipSpaces_4 rfl rfl rfl ?_
      refine bs_getf (pc' := 8) kf_X4_21 dX4_skipSpaces_5 sk_o rfl rfl ?_
      refine bs_icmp_ge (tgt := 38) (pc' := 11) dX4_skipSpaces_8 rfl rfl (fun c8 => absurd c8 (by rw [sAt_22, sAt_n (by decide), h18]; exact nI_ge hlt (by show pN ψ < _; omega))) (fun _ => ?_)
      refine bs_aload_n (pc' := 12) dX4_skipSpaces_11 rfl rfl rfl ?_
      refine bs_getf (pc' := 15) kf_X4_9 dX4_skipSpaces_12 sk_o rfl rfl ?_
      refine bs_aload_n (pc' := 16) dX4_skipSpaces_15 rfl rfl rfl ?_
      refine bs_getf (pc' := 19) kf_X4_28 dX4_skipSpaces_16 sk_o rfl rfl ?_
      refine bs_ild (pc' := 20) dX4_skipSpaces_19 (sk_x hD) a sAt_22 ⟨by omega, by decide⟩ rfl ?_
      refine bs_bipush (v := 32) (pc' := 22) dX4_skipSpaces_20 (by decide) rfl ?_
      refine bs_icmp_ne (tgt := 38) (pc' := 25) dX4_skipSpaces_22 rfl rfl (fun c22 => ?_) (fun c22 => ?_)
      · have c22' : ¬ ψ 17 a = 32 := c22
        have e2 : skp (ψ 17) (f + 1) a = a := by rw [skp, if_neg c22']
        rw [e2]
        exact bs_vret dX4_skipSpaces_38 rfl ⟨rfl, rfl⟩
      · refine bs_aload_n (pc' := 26) dX4_skipSpaces_25 rfl rfl rfl ?_
        refine bs_dup (pc' := 27) dX4_skipSpaces_26 rfl rfl ?_
        refine bs_getf (pc' := 30) kf_X4_28 dX4_skipSpaces_27 sk_o rfl rfl ?_
        refine bs_iconst (v := 1) (pc' := 31) dX4_skipSpaces_30 (by decide) rfl ?_
        refine bs_iadd (pc' := 32) dX4_skipSpaces_31 rfl ?_
        refine sk_pt5 (pc' := 35) kf_X4_28 dX4_skipSpaces_32 rfl ?_
        refine bs_goto (tgt := 0) dX4_skipSpaces_35 rfl ?_
        have e3 : ms_u (sAt ψ a) 22 0 (sAt ψ a 22 0 + 1) = sAt ψ (a + 1) := by
          rw [sAt_22, nI_1]
          exact sAt_s ψ a (a + 1)
        have c22' : ψ 17 a = 32 := c22
        have e2 : skp (ψ 17) (f + 1) a = skp (ψ 17) f (a + 1) := by rw [skp, if_pos c22']
        rw [e3, e2]
        exact ih (a + 1) (by omega) (by omega) (by omega)
  have lp := loop (pN ψ - pA ψ) (pA ψ) rfl (Nat.le_refl _) hp.2.2.1
  rw [hp.e] at lp
  exact lp
theorem ss_byteHere (hD : d4 o x l r) (hp : pOk ψ) : sSp G h o x l r ψ mX4_byteHere 0 [] (sQ G h o x l r ψ (bHere ψ)) := by
  have hn := hp.n
  have h18 := hp.1.ln.1
  have h22 := hp.2.1
  have h3 := hp.2.2.1
  refine bs_Sp.of (by decide) rfl ?_
  by_cases hlt : pA ψ < pN ψ
  · have e : bHere ψ = ψ 17 (pA ψ) := if_pos hlt
    rw [e]
    refine bs_aload_n (pc' := 1) dX4_byteHere_0 rfl rfl rfl ?_
    refine bs_getf (pc' := 4) kf_X4_28 dX4_byteHere_1 sk_o rfl rfl ?_
    refine bs_aload_n (pc' := 5) dX4_byteHere_4 rfl rfl rfl ?_
    refine bs_getf (pc' := 8) kf_X4_21 dX4_byteHere_5 sk_o rfl rfl ?_
    refine bs_icmp_ge (tgt := 23) (pc' := 11) dX4_byteHere_8 rfl rfl (fun c8 => absurd c8 (by rw [h22, h18]; exact nI_ge hlt (by show pN ψ < _; omega))) (fun _ => ?_)
    refine bs_aload_n (pc' := 12) dX4_byteHere_11 rfl rfl rfl ?_
    refine bs_getf (pc' := 15) kf_X4_9 dX4_byteHere_12 sk_o rfl rfl ?_
    refine bs_aload_n (pc' := 16) dX4_byteHere_15 rfl rfl rfl ?_
    refine bs_getf (pc' := 19) kf_X4_28 dX4_byteHere_16 sk_o rfl rfl ?_
    refine bs_ild (pc' := 20) dX4_byteHere_19 (sk_x hD) (pA ψ) h22 ⟨by omega, by decide⟩ rfl ?_
    refine bs_goto (tgt := 24) dX4_byteHere_20 rfl ?_
    exact bs_iret dX4_byteHere_24 rfl ⟨rfl, rfl⟩
  · have e : bHere ψ = -1 := if_neg hlt
    rw [e]
    refine bs_aload_n (pc' := 1) dX4_byteHere_0 rfl rfl rfl ?_
    refine bs_getf (pc' := 4) kf_X4_28 dX4_byteHere_1 sk_o rfl rfl ?_
    refine bs_aload_n (pc' := 5) dX4_byteHere_4 rfl rfl rfl ?_
    refine bs_getf (pc' := 8) kf_X4_21 dX4_byteHere_5 sk_o rfl rfl ?_
    refine bs_icmp_ge (tgt := 23) (pc' := 11) dX4_byteHere_8 rfl rfl (fun _ => ?_) (fun c8 => absurd (by rw [h22, h18]; exact nI_le (by show pN ψ ≤ _; omega) (by omega)) c8)
    refine bs_iconst (v := (-1)) (pc' := 24) dX4_byteHere_23 (by decide) rfl ?_
    exact bs_iret dX4_byteHere_24 rfl ⟨rfl, rfl⟩
theorem dg_here : dg ψ (pA ψ) = decide (48 ≤ bHere ψ ∧ bHere ψ ≤ 57) := by
  unfold dg isAt bHere
  by_cases hlt : pA ψ < pN ψ
  · rw [if_pos hlt, decide_eq_true hlt, Bool.true_and]
  · rw [if_neg hlt, decide_eq_false hlt, Bool.false_and]
    decide
theorem ss_isDigitHere (hD : d4 o x l r) (hp : pOk ψ) : sSp G h o x l r ψ mX4_isDigitHere 1 [] (sQ G h o x l r ψ (bI (dg ψ (pA ψ)))) := by
  rw [dg_here]
  refine bs_Sp.of (by decide) rfl ?_
  refine bs_aload_n (pc' := 1) dX4_isDigitHere_0 rfl rfl rfl ?_
  refine bs_callV (N := mX4_byteHere) (pc' := 4) dX4_isDigitHere_1 km_X4_38 ko_X4_byteHere (ss_byteHere hD hp) sk_o rfl rfl rfl (by omega) (Nat.le_refl _) (Nat.le_refl _) rfl ?_
  rintro _ _ ⟨rfl, rfl⟩
  refine bs_istore_n (pc' := 5) (lv' := [(0, _), (1, _)]) dX4_isDigitHere_4 rfl rfl rfl ?_
  refine bs_iload_n (pc' := 6) dX4_isDigitHere_5 rfl rfl ?_
  refine bs_bipush (v := 48) (pc' := 8) dX4_isDigitHere_6 (by decide) rfl ?_
  refine bs_icmp_lt (tgt := 21) (pc' := 11) dX4_isDigitHere_8 rfl rfl (fun c8 => ?_) (fun c8 => ?_)
  · refine bs_iconst (v := 0) (pc' := 22) dX4_isDigitHere_21 (by decide) rfl ?_
    exact bs_zret dX4_isDigitHere_22 rfl (by decide) ⟨by first | (rw [decide_eq_false (fun z => Int32.not_lt.mpr z.1 c8)]; rfl) | (rw [decide_eq_false (fun z => Int32.not_lt.mpr z.2 c14)]; rfl) | (rw [decide_eq_true ⟨Int32.not_lt.mp c8, Int32.not_lt.mp c14⟩]; rfl), rfl⟩
  · refine bs_iload_n (pc' := 12) dX4_isDigitHere_11 rfl rfl ?_
    refine bs_bipush (v := 57) (pc' := 14) dX4_isDigitHere_12 (by decide) rfl ?_
    refine bs_icmp_gt (tgt := 21) (pc' := 17) dX4_isDigitHere_14 rfl rfl (fun c14 => ?_) (fun c14 => ?_)
    · refine bs_iconst (v := 0) (pc' := 22) dX4_isDigitHere_21 (by decide) rfl ?_
      exact bs_zret dX4_isDigitHere_22 rfl (by decide) ⟨by first | (rw [decide_eq_false (fun z => Int32.not_lt.mpr z.1 c8)]; rfl) | (rw [decide_eq_false (fun z => Int32.not_lt.mpr z.2 c14)]; rfl) | (rw [decide_eq_true ⟨Int32.not_lt.mp c8, Int32.not_lt.mp c14⟩]; rfl), rfl⟩
    · refine bs_iconst (v := 1) (pc' := 18) dX4_isDigitHere_17 (by decide) rfl ?_
      refine bs_goto (tgt := 22) dX4_isDigitHere_18 rfl ?_
      exact bs_zret dX4_isDigitHere_22 rfl (by decide) ⟨by first | (rw [decide_eq_false (fun z => Int32.not_lt.mpr z.1 c8)]; rfl) | (rw [decide_eq_false (fun z => Int32.not_lt.mpr z.2 c14)]; rfl) | (rw [decide_eq_true ⟨Int32.not_lt.mp c8, Int32.not_lt.mp c14⟩]; rfl), rfl⟩
theorem dg_b (h : dg ψ (pA ψ) = true) : bHere ψ = ψ 17 (pA ψ) := if_pos (dg_lt h)
theorem ss_parseArgument {to : Nat} (hD : d4 o x l r) (hp : pOk ψ) (hto : to < 180) : sSp G h o x l r ψ mX4_parseArgument 2 [.int (nI to)] (sQ G h o x l r (c_arg ψ to).2 (bI (c_arg ψ to).1)) := by
  have hn := hp.n
  have h22 := hp.2.1
  refine bs_Sp.of (by decide) rfl ?_
  -- behind the digits
  have j57 : ∀ a v, pA ψ ≤ a → a ≤ pN ψ → sB G h o x l r (sAt ψ a) mX4_parseArgument 2 57 [(0, .ref o), (1, .int (nI to)), (2, .int v)] [] (sQ G h o x l r (if dg ψ a = true then sAt ψ a else ms_u (t_bl (sAt ψ a)) 20 to v) (bI (!dg ψ a))) := by
    intro a v h1 h2
    have hk := pOk_at hp h1 h2
    have eA : pA (sAt ψ a) = a := sAt_A (by omega)
    obtain ⟨b1, -, -⟩ := pOk_bl hk
    refine bs_aload_n (pc' := 58) dX4_parseArgument_57 rfl rfl rfl ?_
    refine bs_callV (N := mX4_isDigitHere) (pc' := 61) dX4_parseArgument_58 km_X4_50 ko_X4_isDigitHere (ss_isDigitHere hD hk) sk_o rfl rfl rfl (by omega) (Nat.le_refl _) (Nat.le_refl _) rfl ?_
    rintro _ _ ⟨rfl, rfl⟩
    rw [eA]
    refine bs_if_eq (tgt := 66) (pc' := 64) dX4_parseArgument_61 rfl rfl (fun c61 => ?_) (fun c61 => ?_)
    · rw [bI_0] at c61
      have c61' : dg ψ a = false := c61
      refine bs_aload_n (pc' := 67) dX4_parseArgument_66 rfl rfl rfl ?_
      refine bs_callV (N := mX4_skipSpaces) (pc' := 70) dX4_parseArgument_67 km_X4_31 ko_X4_skipSpaces (ss_skipSpaces hD hk) sk_o rfl rfl rfl (by omega) (Nat.le_refl _) (Nat.le_refl _) rfl ?_
      rintro _ _ ⟨rfl, rfl⟩
      refine bs_aload_n (pc' := 71) dX4_parseArgument_70 rfl rfl rfl ?_
      refine bs_getf (pc' := 74) kf_X4_18 dX4_parseArgument_71 sk_o rfl rfl ?_
      refine bs_iload_n (pc' := 75) dX4_parseArgument_74 rfl rfl ?_
      refine bs_iload_n (pc' := 76) dX4_parseArgument_75 rfl rfl ?_
      refine sk_st3 (pc' := 77) dX4_parseArgument_76 hD to rfl hto rfl ?_
      refine bs_iconst (v := 1) (pc' := 78) dX4_parseArgument_77 (by decide) rfl ?_
      exact bs_zret dX4_parseArgument_78 rfl (by decide) ⟨by rw [c61']; rfl, by rw [if_neg (by rw [c61']; decide)]⟩
    · refine bs_iconst (v := 0) (pc' := 65) dX4_parseArgument_64 (by decide) rfl ?_
      rw [bI_n0] at c61
      have c61' : dg ψ a = true := c61
      exact bs_zret dX4_parseArgument_65 rfl (by decide) ⟨by rw [c61']; rfl, by rw [if_pos c61']⟩
  have ebump : ∀ a, ms_u (sAt ψ a) 22 0 (sAt ψ a 22 0 + 1) = sAt ψ (a + 1) := fun a => by
    rw [sAt_22, nI_1]
    exact sAt_s ψ a (a + 1)
  have j57a : dg ψ (pA ψ) = true → dg ψ (pA ψ + 1) = false → sB G h o x l r (sAt ψ (pA ψ + 1)) mX4_parseArgument 2 57 [(0, .ref o), (1, .int (nI to)), (2, .int (ψ 17 (pA ψ) - 48))] [] (sQ G h o x l r (c_arg ψ to).2 (bI (c_arg ψ to).1)) := by
    intro d0 d1
    have l0 := dg_lt d0
    have lp := j57 (pA ψ + 1) (ψ 17 (pA ψ) - 48) (by omega) (by omega)
    have hne : ¬ dg ψ (pA ψ + 1) = true := by rw [d1]; decide
    have e : c_arg ψ to = (true, ms_u (t_bl (sAt ψ (pA ψ + 1))) 20 to (ψ 17 (pA ψ) - 48)) := by rw [c_arg, if_pos d0, if_neg hne]
    rw [if_neg hne, d1] at lp
    rw [e]
    exact lp
  have j57b : dg ψ (pA ψ) = true → dg ψ (pA ψ + 1) = true → sB G h o x l r (sAt ψ (pA ψ + 2)) mX4_parseArgument 2 57 [(0, .ref o), (1, .int (nI to)), (2, .int (10 * (ψ 17 (pA ψ) - 48) + ψ 17 (pA ψ + 1) - 48))] [] (sQ G h o x l r (c_arg ψ to).2 (bI (c_arg ψ to).1)) := by
    intro d0 d1
    have l0 := dg_lt d0
    have l1 := dg_lt d1
    have lp := j57 (pA ψ + 2) (10 * (ψ 17 (pA ψ) - 48) + ψ 17 (pA ψ + 1) - 48) (by omega) (by omega)
    have e : c_arg ψ to = (!dg ψ (pA ψ + 2), if dg ψ (pA ψ + 2) = true then sAt ψ (pA ψ + 2) else ms_u (t_bl (sAt ψ (pA ψ + 2))) 20 to (10 * (ψ 17 (pA ψ) - 48) + ψ 17 (pA ψ + 1) - 48)) := by
      rw [c_arg, if_pos d0, if_pos d1]
      cases hd2 : dg ψ (pA ψ + 2) <;> rfl
    rw [e]
    exact lp
  refine bs_aload_n (pc' := 1) dX4_parseArgument_0 rfl rfl rfl ?_
  refine bs_callV (N := mX4_isDigitHere) (pc' := 4) dX4_parseArgument_1 km_X4_50 ko_X4_isDigitHere (ss_isDigitHere hD hp) sk_o rfl rfl rfl (by omega) (Nat.le_refl _) (Nat.le_refl _) rfl ?_
  rintro _ _ ⟨rfl, rfl⟩
  refine bs_if_ne (tgt := 9) (pc' := 7) dX4_parseArgument_4 rfl rfl (fun c4 => ?_) (fun c4 => ?_)
  · rw [bI_n0] at c4
    have hl0 := dg_lt c4
    have hk1 := pOk_at (a := pA ψ + 1) hp (by omega) (by omega)
    have eA1 : pA (sAt ψ (pA ψ + 1)) = pA ψ + 1 := sAt_A (by omega)
    refine bs_aload_n (pc' := 10) dX4_parseArgument_9 rfl rfl rfl ?_
    refine bs_callV (N := mX4_byteHere) (pc' := 13) dX4_parseArgument_10 km_X4_38 ko_X4_byteHere (ss_byteHere hD hp) sk_o rfl rfl rfl (by omega) (Nat.le_refl _) (Nat.le_refl _) rfl ?_
    rintro _ _ ⟨rfl, rfl⟩
    rw [dg_b c4]
    refine bs_bipush (v := 48) (pc' := 15) dX4_parseArgument_13 (by decide) rfl ?_
    refine bs_isub (pc' := 16) dX4_parseArgument_15 rfl ?_
    refine bs_istore_n (pc' := 17) (lv' := [(0, _), (1, _), (2, _)]) dX4_parseArgument_16 rfl rfl rfl ?_
    refine bs_aload_n (pc' := 18) dX4_parseArgument_17 rfl rfl rfl ?_
    refine bs_dup (pc' := 19) dX4_parseArgument_18 rfl rfl ?_
    refine bs_getf (pc' := 22) kf_X4_28 dX4_parseArgument_19 sk_o rfl rfl ?_
    refine bs_iconst (v := 1) (pc' := 23) dX4_parseArgument_22 (by decide) rfl ?_
    refine bs_iadd (pc' := 24) dX4_parseArgument_23 rfl ?_
    refine sk_pt5 (pc' := 27) kf_X4_28 dX4_parseArgument_24 rfl ?_
    have eb : ms_u ψ 22 0 (ψ 22 0 + 1) = sAt ψ (pA ψ + 1) := by
      have := ebump (pA ψ)
      rw [hp.e] at this
      exact this
    rw [eb]
    refine bs_aload_n (pc' := 28) dX4_parseArgument_27 rfl rfl rfl ?_
    refine bs_callV (N := mX4_isDigitHere) (pc' := 31) dX4_parseArgument_28 km_X4_50 ko_X4_isDigitHere (ss_isDigitHere hD hk1) sk_o rfl rfl rfl (by omega) (Nat.le_refl _) (Nat.le_refl _) rfl ?_
    rintro _ _ ⟨rfl, rfl⟩
    rw [eA1]
    refine bs_if_eq (tgt := 57) (pc' := 34) dX4_parseArgument_31 rfl rfl (fun c31 => ?_) (fun c31 => ?_)
    · try rw [ebump (pA ψ + 1)]
      first | exact j57a c4 (by rw [bI_0] at c31; exact c31) | exact j57b c4 c31'
    · rw [bI_n0] at c31
      have c31' : dg ψ (pA ψ + 1) = true := c31
      have hl1 := dg_lt c31'
      refine bs_bipush (v := 10) (pc' := 36) dX4_parseArgument_34 (by decide) rfl ?_
      refine bs_iload_n (pc' := 37) dX4_parseArgument_36 rfl rfl ?_
      refine bs_imul (pc' := 38) dX4_parseArgument_37 rfl ?_
      refine bs_aload_n (pc' := 39) dX4_parseArgument_38 rfl rfl rfl ?_
      refine bs_callV (N := mX4_byteHere) (pc' := 42) dX4_parseArgument_39 km_X4_38 ko_X4_byteHere (ss_byteHere hD hk1) sk_o rfl rfl rfl (by omega) (Nat.le_refl _) (Nat.le_refl _) rfl ?_
      rintro _ _ ⟨rfl, rfl⟩
      have eb2 : bHere (sAt ψ (pA ψ + 1)) = ψ 17 (pA ψ + 1) := by
        have e5 : dg (sAt ψ (pA ψ + 1)) (pA (sAt ψ (pA ψ + 1))) = true := by rw [eA1]; exact c31
        rw [dg_b e5, eA1]
        rfl
      rw [eb2]
      refine bs_iadd (pc' := 43) dX4_parseArgument_42 rfl ?_
      refine bs_bipush (v := 48) (pc' := 45) dX4_parseArgument_43 (by decide) rfl ?_
      refine bs_isub (pc' := 46) dX4_parseArgument_45 rfl ?_
      refine bs_istore_n (pc' := 47) (lv' := [(0, _), (1, _), (2, _)]) dX4_parseArgument_46 rfl rfl rfl ?_
      refine bs_aload_n (pc' := 48) dX4_parseArgument_47 rfl rfl rfl ?_
      refine bs_dup (pc' := 49) dX4_parseArgument_48 rfl rfl ?_
      refine bs_getf (pc' := 52) kf_X4_28 dX4_parseArgument_49 sk_o rfl rfl ?_
      refine bs_iconst (v := 1) (pc' := 53) dX4_parseArgument_52 (by decide) rfl ?_
      refine bs_iadd (pc' := 54) dX4_parseArgument_53 rfl ?_
      refine sk_pt5 (pc' := 57) kf_X4_28 dX4_parseArgument_54 rfl ?_
      try rw [ebump (pA ψ + 1)]
      first | exact j57a c4 (by rw [bI_0] at c31; exact c31) | exact j57b c4 c31'
  · refine bs_iconst (v := 0) (pc' := 8) dX4_parseArgument_7 (by decide) rfl ?_
    have e : c_arg ψ to = (false, ψ) := by rw [c_arg, if_neg (by rw [bI_0] at c4; rw [c4]; decide)]
    exact bs_zret dX4_parseArgument_8 rfl (by decide) ⟨by rw [e]; rfl, by rw [e]⟩
theorem ss_argumentsOf {h : Hp} {c : Int32} : bs_Sp G mX4_argumentsOf 0 0 0 [.int c] h (fun v h' => v = some (.int (oI (mny c))) ∧ h' = h) := by
  refine bs_Sp.of (by decide) rfl ?_
  refine bs_iload_n (pc' := 1) dX4_argumentsOf_0 rfl rfl ?_
  by_cases hr : c.toInt < 97 ∨ 119 < c.toInt
  · refine bs_switchOut (tgt := 116) dX4_argumentsOf_1 hr rfl ?_
    have e := mny_out hr
    refine bs_iconst (v := (-1)) (pc' := 117) dX4_argumentsOf_116 (by decide) rfl ?_
    exact bs_iret dX4_argumentsOf_117 rfl ⟨by rw [e]; rfl, rfl⟩
  · obtain ⟨k, hk, rfl⟩ := sw_in hr
    match k, hk with
    | 0, _ =>
      refine bs_switchIn (off := 109) (tgt := 110) dX4_argumentsOf_1 (by decide) (by decide) (by decide) rfl ?_
      refine bs_iconst (v := 1) (pc' := 111) dX4_argumentsOf_110 (by decide) rfl ?_
      exact bs_iret dX4_argumentsOf_111 rfl ⟨by decide, rfl⟩
    | 1, _ =>
      refine bs_switchIn (off := 115) (tgt := 116) dX4_argumentsOf_1 (by decide) (by decide) (by decide) rfl ?_
      refine bs_iconst (v := (-1)) (pc' := 117) dX4_argumentsOf_116 (by decide) rfl ?_
      exact bs_iret dX4_argumentsOf_117 rfl ⟨by decide, rfl⟩
    | 2, _ =>
      refine bs_switchIn (off := 115) (tgt := 116) dX4_argumentsOf_1 (by decide) (by decide) (by decide) rfl ?_
      refine bs_iconst (v := (-1)) (pc' := 117) dX4_argumentsOf_116 (by decide) rfl ?_
      exact bs_iret dX4_argumentsOf_117 rfl ⟨by decide, rfl⟩
    | 3, _ =>
      refine bs_switchIn (off := 115) (tgt := 116) dX4_argumentsOf_1 (by decide) (by decide) (by decide) rfl ?_
      refine bs_iconst (v := (-1)) (pc' := 117) dX4_argumentsOf_116 (by decide) rfl ?_
      exact bs_iret dX4_argumentsOf_117 rfl ⟨by decide, rfl⟩
    | 4, _ =>
      refine bs_switchIn (off := 107) (tgt := 108) dX4_argumentsOf_1 (by decide) (by decide) (by decide) rfl ?_
      refine bs_iconst (v := 0) (pc' := 109) dX4_argumentsOf_108 (by decide) rfl ?_
      exact bs_iret dX4_argumentsOf_109 rfl ⟨by decide, rfl⟩
    | 5, _ =>
      refine bs_switchIn (off := 109) (tgt := 110) dX4_argumentsOf_1 (by decide) (by decide) (by decide) rfl ?_
      refine bs_iconst (v := 1) (pc' := 111) dX4_argumentsOf_110 (by decide) rfl ?_
      exact bs_iret dX4_argumentsOf_111 rfl ⟨by decide, rfl⟩
    | 6, _ =>
      refine bs_switchIn (off := 115) (tgt := 116) dX4_argumentsOf_1 (by decide) (by decide) (by decide) rfl ?_
      refine bs_iconst (v := (-1)) (pc' := 117) dX4_argumentsOf_116 (by decide) rfl ?_
      exact bs_iret dX4_argumentsOf_117 rfl ⟨by decide, rfl⟩
    | 7, _ =>
      refine bs_switchIn (off := 115) (tgt := 116) dX4_argumentsOf_1 (by decide) (by decide) (by decide) rfl ?_
      refine bs_iconst (v := (-1)) (pc' := 117) dX4_argumentsOf_116 (by decide) rfl ?_
      exact bs_iret dX4_argumentsOf_117 rfl ⟨by decide, rfl⟩
    | 8, _ =>
      refine bs_switchIn (off := 115) (tgt := 116) dX4_argumentsOf_1 (by decide) (by decide) (by decide) rfl ?_
      refine bs_iconst (v := (-1)) (pc' := 117) dX4_argumentsOf_116 (by decide) rfl ?_
      exact bs_iret dX4_argumentsOf_117 rfl ⟨by decide, rfl⟩
    | 9, _ =>
      refine bs_switchIn (off := 115) (tgt := 116) dX4_argumentsOf_1 (by decide) (by decide) (by decide) rfl ?_
      refine bs_iconst (v := (-1)) (pc' := 117) dX4_argumentsOf_116 (by decide) rfl ?_
      exact bs_iret dX4_argumentsOf_117 rfl ⟨by decide, rfl⟩
    | 10, _ =>
      refine bs_switchIn (off := 115) (tgt := 116) dX4_argumentsOf_1 (by decide) (by decide) (by decide) rfl ?_
      refine bs_iconst (v := (-1)) (pc' := 117) dX4_argumentsOf_116 (by decide) rfl ?_
      exact bs_iret dX4_argumentsOf_117 rfl ⟨by decide, rfl⟩
    | 11, _ =>
      refine bs_switchIn (off := 107) (tgt := 108) dX4_argumentsOf_1 (by decide) (by decide) (by decide) rfl ?_
      refine bs_iconst (v := 0) (pc' := 109) dX4_argumentsOf_108 (by decide) rfl ?_
      exact bs_iret dX4_argumentsOf_109 rfl ⟨by decide, rfl⟩
    | 12, _ =>
      refine bs_switchIn (off := 113) (tgt := 114) dX4_argumentsOf_1 (by decide) (by decide) (by decide) rfl ?_
      refine bs_iconst (v := 3) (pc' := 115) dX4_argumentsOf_114 (by decide) rfl ?_
      exact bs_iret dX4_argumentsOf_115 rfl ⟨by decide, rfl⟩
    | 13, _ =>
      refine bs_switchIn (off := 115) (tgt := 116) dX4_argumentsOf_1 (by decide) (by decide) (by decide) rfl ?_
      refine bs_iconst (v := (-1)) (pc' := 117) dX4_argumentsOf_116 (by decide) rfl ?_
      exact bs_iret dX4_argumentsOf_117 rfl ⟨by decide, rfl⟩
    | 14, _ =>
      refine bs_switchIn (off := 115) (tgt := 116) dX4_argumentsOf_1 (by decide) (by decide) (by decide) rfl ?_
      refine bs_iconst (v := (-1)) (pc' := 117) dX4_argumentsOf_116 (by decide) rfl ?_
      exact bs_iret dX4_argumentsOf_117 rfl ⟨by decide, rfl⟩
    | 15, _ =>
      refine bs_switchIn (off := 113) (tgt := 114) dX4_argumentsOf_1 (by decide) (by decide) (by decide) rfl ?_
      refine bs_iconst (v := 3) (pc' := 115) dX4_argumentsOf_114 (by decide) rfl ?_
      exact bs_iret dX4_argumentsOf_115 rfl ⟨by decide, rfl⟩
    | 16, _ =>
      refine bs_switchIn (off := 115) (tgt := 116) dX4_argumentsOf_1 (by decide) (by decide) (by decide) rfl ?_
      refine bs_iconst (v := (-1)) (pc' := 117) dX4_argumentsOf_116 (by decide) rfl ?_
      exact bs_iret dX4_argumentsOf_117 rfl ⟨by decide, rfl⟩
    | 17, _ =>
      refine bs_switchIn (off := 111) (tgt := 112) dX4_argumentsOf_1 (by decide) (by decide) (by decide) rfl ?_
      refine bs_iconst (v := 2) (pc' := 113) dX4_argumentsOf_112 (by decide) rfl ?_
      exact bs_iret dX4_argumentsOf_113 rfl ⟨by decide, rfl⟩
    | 18, _ =>
      refine bs_switchIn (off := 113) (tgt := 114) dX4_argumentsOf_1 (by decide) (by decide) (by decide) rfl ?_
      refine bs_iconst (v := 3) (pc' := 115) dX4_argumentsOf_114 (by decide) rfl ?_
      exact bs_iret dX4_argumentsOf_115 rfl ⟨by decide, rfl⟩
    | 19, _ =>
      refine bs_switchIn (off := 115) (tgt := 116) dX4_argumentsOf_1 (by decide) (by decide) (by decide) rfl ?_
      refine bs_iconst (v := (-1)) (pc' := 117) dX4_argumentsOf_116 (by decide) rfl ?_
      exact bs_iret dX4_argumentsOf_117 rfl ⟨by decide, rfl⟩
    | 20, _ =>
      refine bs_switchIn (off := 115) (tgt := 116) dX4_argumentsOf_1 (by decide) (by decide) (by decide) rfl ?_
      refine bs_iconst (v := (-1)) (pc' := 117) dX4_argumentsOf_116 (by decide) rfl ?_
      exact bs_iret dX4_argumentsOf_117 rfl ⟨by decide, rfl⟩
    | 21, _ =>
      refine bs_switchIn (off := 115) (tgt := 116) dX4_argumentsOf_1 (by decide) (by decide) (by decide) rfl ?_
      refine bs_iconst (v := (-1)) (pc' := 117) dX4_argumentsOf_116 (by decide) rfl ?_
      exact bs_iret dX4_argumentsOf_117 rfl ⟨by decide, rfl⟩
    | 22, _ =>
      refine bs_switchIn (off := 113) (tgt := 114) dX4_argumentsOf_1 (by decide) (by decide) (by decide) rfl ?_
      refine bs_iconst (v := 3) (pc' := 115) dX4_argumentsOf_114 (by decide) rfl ?_
      exact bs_iret dX4_argumentsOf_115 rfl ⟨by decide, rfl⟩
    | k + 23, h => exact absurd h (by omega)
theorem arg_ok {to : Nat} (hp : pOk ψ) : pOk (c_arg ψ to).2 ∧ pA ψ ≤ pA (c_arg ψ to).2 ∧ ∀ k, k ≠ 22 → k ≠ 20 → (c_arg ψ to).2 k = ψ k := by
  have hn := hp.n
  have h1 := hp.2.2.1
  have key : ∀ a v, pA ψ ≤ a → a ≤ pN ψ → pOk (ms_u (t_bl (sAt ψ a)) 20 to v) ∧ pA ψ ≤ pA (ms_u (t_bl (sAt ψ a)) 20 to v) ∧ ∀ k, k ≠ 22 → k ≠ 20 → ms_u (t_bl (sAt ψ a)) 20 to v k = ψ k := by
    intro a v h2 h3
    have hk := pOk_at hp h2 h3
    obtain ⟨b1, b2, b3⟩ := pOk_bl hk
    have eA : pA (sAt ψ a) = a := sAt_A (by omega)
    refine ⟨pOk_u b1 (by decide), by show pA ψ ≤ pA (t_bl (sAt ψ a)); omega, fun k a1 a2 => ?_⟩
    rw [ms_u_n a2, b3 k a1, sAt_n a1]
  unfold c_arg
  split
  · next d0 =>
    have l0 := dg_lt d0
    split
    · next d1 =>
      have l1 := dg_lt d1
      split
      · have eA : pA (sAt ψ (pA ψ + 2)) = pA ψ + 2 := sAt_A (by omega)
        exact ⟨pOk_at hp (by omega) (by omega), by show pA ψ ≤ pA (sAt ψ (pA ψ + 2)); omega, fun k a1 a2 => sAt_n a1⟩
      · exact key _ _ (by omega) (by omega)
    · exact key _ _ (by omega) (by omega)
  · exact ⟨hp, Nat.le_refl _, fun _ _ _ => rfl⟩
theorem args_ok {base : Nat} : ∀ (f k : Nat) (ψ : MS), pOk ψ → pOk (c_args base f k ψ).2 ∧ pA ψ ≤ pA (c_args base f k ψ).2 ∧ ∀ j, j ≠ 22 → j ≠ 20 → (c_args base f k ψ).2 j = ψ j
  | 0, _, ψ, h => ⟨h, Nat.le_refl _, fun _ _ _ => rfl⟩
  | f + 1, k, ψ, h => by
    obtain ⟨g1, g2, g3⟩ := arg_ok (to := base + k) h
    unfold c_args
    split
    · obtain ⟨e1, e2, e3⟩ := args_ok (base := base) f (k + 1) _ g1
      exact ⟨e1, Nat.le_trans g2 e2, fun j a b => (e3 j a b).trans (g3 j a b)⟩
    · exact ⟨g1, g2, g3⟩
theorem here_59 (h : bHere ψ = 59) : pA ψ < pN ψ := by
  unfold bHere at h
  split at h
  · next q => exact q
  · exact absurd h (by decide)
theorem cend_ok {c : Int32} (h : pOk ψ) (h2 : 2 * zN (ψ 21 0) + 1 ≤ pA ψ) : pOk (c_end ψ c).2 ∧ pA ψ ≤ pA (c_end ψ c).2 ∧ ((c_end ψ c).1 = true → pA ψ + 1 ≤ pA (c_end ψ c).2) ∧ ∀ j, j < 19 → (c_end ψ c).2 j = ψ j := by
  have hn := h.n
  unfold c_end
  split
  · next hb =>
    have hlt := here_59 hb
    have hk := pOk_at (a := pA ψ + 1) h (by omega) (by omega)
    obtain ⟨b1, b2, b3⟩ := pOk_bl hk
    have eA : pA (sAt ψ (pA ψ + 1)) = pA ψ + 1 := sAt_A (by omega)
    have hz := zN_s (x := ψ 21 0) (b := 120) ⟨h.2.2.2.1, by omega⟩ (by decide)
    have f21 : ms_u (ms_u (t_bl (sAt ψ (pA ψ + 1))) 19 (zN (ψ 21 0)) c) 21 0 (ψ 21 0 + 1) 21 0 = ψ 21 0 + 1 := rfl
    have fA : pA (ms_u (ms_u (t_bl (sAt ψ (pA ψ + 1))) 19 (zN (ψ 21 0)) c) 21 0 (ψ 21 0 + 1)) = pA (t_bl (sAt ψ (pA ψ + 1))) := rfl
    refine ⟨⟨mInv_u (mInv_u b1.1 (by decide)) (by decide), b1.2.1, b1.2.2.1, ?_, ?_⟩, ?_, fun _ => ?_, fun j hj => ?_⟩
    · show ms_u (ms_u (t_bl (sAt ψ (pA ψ + 1))) 19 (zN (ψ 21 0)) c) 21 0 (ψ 21 0 + 1) 21 0 = nI (zN (ms_u (ms_u (t_bl (sAt ψ (pA ψ + 1))) 19 (zN (ψ 21 0)) c) 21 0 (ψ 21 0 + 1) 21 0))
      rw [f21, hz.2]; exact hz.1
    · show 2 * zN (ms_u (ms_u (t_bl (sAt ψ (pA ψ + 1))) 19 (zN (ψ 21 0)) c) 21 0 (ψ 21 0 + 1) 21 0) ≤ pA (t_bl (sAt ψ (pA ψ + 1)))
      rw [f21, hz.2]; omega
    · show pA ψ ≤ pA (t_bl (sAt ψ (pA ψ + 1))); omega
    · show pA ψ + 1 ≤ pA (t_bl (sAt ψ (pA ψ + 1))); omega
    · show ms_u _ _ _ _ j = _
      rw [ms_u_n (by omega), ms_u_n (by omega), b3 j (by omega), sAt_n (by omega)]
  · exact ⟨h, Nat.le_refl _, fun q => Bool.noConfusion (show false = true from q), fun _ _ => rfl⟩
theorem here_lt {m : Nat} (h : mny (bHere ψ) = some m) : pA ψ < pN ψ := by
  unfold bHere at h
  split at h
  · next q => exact q
  · have e : mny (-1) = none := by decide
    rw [e] at h
    cases h
theorem ccmd_ok (h : pOk ψ) : pOk (c_cmd ψ).2 ∧ pA ψ ≤ pA (c_cmd ψ).2 ∧ ((c_cmd ψ).1 = true → pA ψ + 1 ≤ pA (c_cmd ψ).2) ∧ ∀ j, j < 19 → (c_cmd ψ).2 j = ψ j := by
  have hn := h.n
  unfold c_cmd
  split
  · exact ⟨h, Nat.le_refl _, fun q => Bool.noConfusion (show false = true from q), fun _ _ => rfl⟩
  · next m hm =>
    have hlt := here_lt hm
    have hk := pOk_at (a := pA ψ + 1) h (by omega) (by omega)
    have eA : pA (sAt ψ (pA ψ + 1)) = pA ψ + 1 := sAt_A (by omega)
    obtain ⟨b1, b2, b3⟩ := pOk_bl hk
    obtain ⟨n1, n2, n3⟩ := args_ok (base := 3 * zN (ψ 21 0)) m 0 _ b1
    have e21 : (c_args (3 * zN (ψ 21 0)) m 0 (t_bl (sAt ψ (pA ψ + 1)))).2 21 = ψ 21 := by rw [n3 21 (by decide) (by decide), b3 21 (by decide), sAt_n (by decide)]
    split
    · obtain ⟨e1, e2, e3, e4⟩ := cend_ok (c := bHere ψ) n1 (by rw [e21]; have := h.2.2.2.2; omega)
      refine ⟨e1, by omega, fun _ => by omega, fun j hj => ?_⟩
      rw [e4 j hj, n3 j (by omega) (by omega), b3 j (by omega), sAt_n (by omega)]
    · refine ⟨n1, by show pA ψ ≤ pA (c_args (3 * zN (ψ 21 0)) m 0 (t_bl (sAt ψ (pA ψ + 1)))).2; omega, fun q => Bool.noConfusion (show false = true from q), fun j hj => ?_⟩
      show (c_args _ _ _ _).2 j = _
      rw [n3 j (by omega) (by omega), b3 j (by omega), sAt_n (by omega)]
theorem ss_parseCommand (hD : d4 o x l r) (hp : pOk ψ) : sSp G h o x l r ψ mX4_parseCommand 3 [] (sQ G h o x l r (c_cmd ψ).2 (bI (c_cmd ψ).1)) := by
  have hn := hp.n
  have h22 := hp.2.1
  have h21 := hp.2.2.2.1
  refine bs_Sp.of (by decide) rfl ?_
  have j9 : sB G h o x l r ψ mX4_parseCommand 3 9 [(0, .ref o), (1, .int (bHere ψ))] [.int (oI (mny (bHere ψ)))] (sQ G h o x l r (c_cmd ψ).2 (bI (c_cmd ψ).1)) := by
    cases hm : mny (bHere ψ) with
    | none =>
      have e : c_cmd ψ = (false, ψ) := by rw [c_cmd, hm]
      refine bs_istore_n (pc' := 10) (lv' := [(0, _), (1, _), (2, _)]) dX4_parseCommand_9 rfl rfl rfl ?_
      refine bs_iload_n (pc' := 11) dX4_parseCommand_10 rfl rfl ?_
      refine bs_iconst (v := (-1)) (pc' := 12) dX4_parseCommand_11 (by decide) rfl ?_
      refine bs_icmp_eq (tgt := 24) (pc' := 15) dX4_parseCommand_12 rfl rfl (fun _ => ?_) (fun c12 => absurd (show oI none = -1 from rfl) c12)
      refine bs_iconst (v := 0) (pc' := 25) dX4_parseCommand_24 (by decide) rfl ?_
      exact bs_zret dX4_parseCommand_25 rfl (by decide) ⟨by rw [e]; rfl, by rw [e]⟩
    | some m =>
      have hm3 := mny_3 hm
      have hlt := here_lt hm
      have hcm : zN (ψ 21 0) < 60 := by have := hp.2.2.2.2; omega
      have hk := pOk_at (a := pA ψ + 1) hp (by omega) (by omega)
      have eA : pA (sAt ψ (pA ψ + 1)) = pA ψ + 1 := sAt_A (by omega)
      obtain ⟨b1, b2, b3⟩ := pOk_bl hk
      have e : c_cmd ψ = if (c_args (3 * zN (ψ 21 0)) m 0 (t_bl (sAt ψ (pA ψ + 1)))).1 = true then c_end (c_args (3 * zN (ψ 21 0)) m 0 (t_bl (sAt ψ (pA ψ + 1)))).2 (bHere ψ) else (false, (c_args (3 * zN (ψ 21 0)) m 0 (t_bl (sAt ψ (pA ψ + 1)))).2) := by rw [c_cmd, hm]
      have loop : ∀ f k τ, k + f = m → pOk τ → τ 21 = ψ 21 → pA ψ + 1 ≤ pA τ → c_args (3 * zN (ψ 21 0)) m 0 (t_bl (sAt ψ (pA ψ + 1))) = c_args (3 * zN (ψ 21 0)) f k τ → sB G h o x l r τ mX4_parseCommand 3 42 [(0, .ref o), (1, .int (bHere ψ)), (2, .int (nI m)), (3, .int (nI k))] [] (sQ G h o x l r (c_cmd ψ).2 (bI (c_cmd ψ).1)) := by
        intro f
        induction f with
        | zero =>
          intro k τ hkm hpt e21 hat hnum
          have hnum : c_args (3 * zN (ψ 21 0)) m 0 (t_bl (sAt ψ (pA ψ + 1))) = (true, τ) := hnum
          rw [hnum, if_pos rfl] at e
          have hnt := hpt.n
          refine bs_iload_n (pc' := 43) dX4_parseCommand_42 rfl rfl ?_
          refine bs_iload_n (pc' := 44) dX4_parseCommand_43 rfl rfl ?_
          refine bs_icmp_ge (tgt := 70) (pc' := 47) dX4_parseCommand_44 rfl rfl (fun _ => ?_) (fun c44 => absurd (nI_le (by omega) (by omega)) c44)
          refine bs_aload_n (pc' := 71) dX4_parseCommand_70 rfl rfl rfl ?_
          refine bs_callV (N := mX4_byteHere) (pc' := 74) dX4_parseCommand_71 km_X4_38 ko_X4_byteHere (ss_byteHere hD hpt) sk_o rfl rfl rfl (by omega) (Nat.le_refl _) (Nat.le_refl _) rfl ?_
          rintro _ _ ⟨rfl, rfl⟩
          refine bs_bipush (v := 59) (pc' := 76) dX4_parseCommand_74 (by decide) rfl ?_
          refine bs_icmp_eq (tgt := 81) (pc' := 79) dX4_parseCommand_76 rfl rfl (fun c76 => ?_) (fun c76 => ?_)
          · have hl2 := here_59 c76
            have hk2 := pOk_at (a := pA τ + 1) hpt (by omega) (by omega)
            have e2 : c_cmd ψ = (true, ms_u (ms_u (t_bl (sAt τ (pA τ + 1))) 19 (zN (τ 21 0)) (bHere ψ)) 21 0 (τ 21 0 + 1)) := by rw [e, c_end, if_pos c76]
            refine bs_aload_n (pc' := 82) dX4_parseCommand_81 rfl rfl rfl ?_
            refine bs_dup (pc' := 83) dX4_parseCommand_82 rfl rfl ?_
            refine bs_getf (pc' := 86) kf_X4_28 dX4_parseCommand_83 sk_o rfl rfl ?_
            refine bs_iconst (v := 1) (pc' := 87) dX4_parseCommand_86 (by decide) rfl ?_
            refine bs_iadd (pc' := 88) dX4_parseCommand_87 rfl ?_
            refine sk_pt5 (pc' := 91) kf_X4_28 dX4_parseCommand_88 rfl ?_
            have e3 : ms_u τ 22 0 (τ 22 0 + 1) = sAt τ (pA τ + 1) := by
              rw [sAt, ← nI_1, ← hpt.2.1]
            rw [e3]
            refine bs_aload_n (pc' := 92) dX4_parseCommand_91 rfl rfl rfl ?_
            refine bs_callV (N := mX4_skipSpaces) (pc' := 95) dX4_parseCommand_92 km_X4_31 ko_X4_skipSpaces (ss_skipSpaces hD hk2) sk_o rfl rfl rfl (by omega) (Nat.le_refl _) (Nat.le_refl _) rfl ?_
            rintro _ _ ⟨rfl, rfl⟩
            refine bs_aload_n (pc' := 96) dX4_parseCommand_95 rfl rfl rfl ?_
            refine bs_getf (pc' := 99) kf_X4_15 dX4_parseCommand_96 sk_o rfl rfl ?_
            refine bs_aload_n (pc' := 100) dX4_parseCommand_99 rfl rfl rfl ?_
            refine bs_getf (pc' := 103) kf_X4_25 dX4_parseCommand_100 sk_o rfl rfl ?_
            refine bs_iload_n (pc' := 104) dX4_parseCommand_103 rfl rfl ?_
            refine sk_st2 (pc' := 105) dX4_parseCommand_104 hD (zN (τ 21 0)) (by show t_bl (sAt τ (pA τ + 1)) 21 0 = _; rw [(pOk_bl hk2).2.2 21 (by decide), sAt_n (by decide)]; exact hpt.2.2.2.1) (by rw [e21]; exact hcm) rfl ?_
            refine bs_aload_n (pc' := 106) dX4_parseCommand_105 rfl rfl rfl ?_
            refine bs_dup (pc' := 107) dX4_parseCommand_106 rfl rfl ?_
            refine bs_getf (pc' := 110) kf_X4_25 dX4_parseCommand_107 sk_o rfl rfl ?_
            refine bs_iconst (v := 1) (pc' := 111) dX4_parseCommand_110 (by decide) rfl ?_
            refine bs_iadd (pc' := 112) dX4_parseCommand_111 rfl ?_
            refine sk_pt4 (pc' := 115) kf_X4_25 dX4_parseCommand_112 rfl ?_
            refine bs_iconst (v := 1) (pc' := 116) dX4_parseCommand_115 (by decide) rfl ?_
            exact bs_zret dX4_parseCommand_116 rfl (by decide) ⟨by rw [e2]; rfl, by rw [e2]; rfl⟩
          · refine bs_iconst (v := 0) (pc' := 80) dX4_parseCommand_79 (by decide) rfl ?_
            have e2 : c_cmd ψ = (false, τ) := by rw [e, c_end, if_neg c76]
            exact bs_zret dX4_parseCommand_80 rfl (by decide) ⟨by rw [e2]; rfl, by rw [e2]⟩
        | succ f ih =>
          intro k τ hkm hpt e21 hat hnum
          obtain ⟨n1, n2, n3⟩ := arg_ok (to := 3 * zN (ψ 21 0) + k) hpt
          have e3 : τ 21 0 * 3 + nI k = nI (3 * zN (ψ 21 0) + k) := by
            rw [e21, h21, show (3 : Int32) = nI 3 from rfl, pk_mul, nI_add, zN_nI (by omega), Nat.mul_comm]
          refine bs_iload_n (pc' := 43) dX4_parseCommand_42 rfl rfl ?_
          refine bs_iload_n (pc' := 44) dX4_parseCommand_43 rfl rfl ?_
          refine bs_icmp_ge (tgt := 70) (pc' := 47) dX4_parseCommand_44 rfl rfl (fun c44 => absurd c44 (nI_ge (by omega) (by omega))) (fun _ => ?_)
          refine bs_aload_n (pc' := 48) dX4_parseCommand_47 rfl rfl rfl ?_
          refine bs_aload_n (pc' := 49) dX4_parseCommand_48 rfl rfl rfl ?_
          refine bs_getf (pc' := 52) kf_X4_25 dX4_parseCommand_49 sk_o rfl rfl ?_
          refine bs_iconst (v := 3) (pc' := 53) dX4_parseCommand_52 (by decide) rfl ?_
          refine bs_imul (pc' := 54) dX4_parseCommand_53 rfl ?_
          refine bs_iload_n (pc' := 55) dX4_parseCommand_54 rfl rfl ?_
          refine bs_iadd (pc' := 56) dX4_parseCommand_55 rfl ?_
          refine bs_topi _ e3 ?_
          refine bs_callV (N := mX4_parseArgument) (pc' := 59) dX4_parseCommand_56 km_X4_46 ko_X4_parseArgument (ss_parseArgument hD hpt (by omega)) sk_o rfl rfl rfl (by omega) (Nat.le_refl _) (Nat.le_refl _) rfl ?_
          rintro _ _ ⟨rfl, rfl⟩
          refine bs_if_ne (tgt := 64) (pc' := 62) dX4_parseCommand_59 rfl rfl (fun c59 => ?_) (fun c59 => ?_)
          · refine bs_iinc (pc' := 67) (lv' := [(0, _), (1, _), (2, _), (3, _)]) dX4_parseCommand_64 rfl (nI_i1 k) rfl rfl rfl ?_
            refine bs_goto (tgt := 42) dX4_parseCommand_67 rfl ?_
            exact ih (k + 1) _ (by omega) n1 ((n3 21 (by decide) (by decide)).trans e21) (by omega) (by rw [hnum, c_args, if_pos (by rw [bI_n0] at c59; exact c59)])
          · refine bs_iconst (v := 0) (pc' := 63) dX4_parseCommand_62 (by decide) rfl ?_
            have e2 : c_cmd ψ = (false, (c_arg τ (3 * zN (ψ 21 0) + k)).2) := by
              have e4 : c_args (3 * zN (ψ 21 0)) (f + 1) k τ = (false, (c_arg τ (3 * zN (ψ 21 0) + k)).2) := by rw [c_args, if_neg (by rw [bI_0] at c59; rw [c59]; decide)]
              rw [e, hnum, e4, if_neg (fun q => Bool.noConfusion (show false = true from q))]
            exact bs_zret dX4_parseCommand_63 rfl (by decide) ⟨by rw [e2]; rfl, by rw [e2]⟩
      have e3 : ms_u ψ 22 0 (ψ 22 0 + 1) = sAt ψ (pA ψ + 1) := by
        rw [sAt, ← nI_1, ← h22]
      refine bs_istore_n (pc' := 10) (lv' := [(0, _), (1, _), (2, _)]) dX4_parseCommand_9 rfl rfl rfl ?_
      refine bs_iload_n (pc' := 11) dX4_parseCommand_10 rfl rfl ?_
      refine bs_iconst (v := (-1)) (pc' := 12) dX4_parseCommand_11 (by decide) rfl ?_
      refine bs_icmp_eq (tgt := 24) (pc' := 15) dX4_parseCommand_12 rfl rfl (fun c12 => absurd c12 (nI_ne_m1 (k := m) (by omega))) (fun _ => ?_)
      refine bs_aload_n (pc' := 16) dX4_parseCommand_15 rfl rfl rfl ?_
      refine bs_getf (pc' := 19) kf_X4_25 dX4_parseCommand_16 sk_o rfl rfl ?_
      refine bs_bipush (v := 60) (pc' := 21) dX4_parseCommand_19 (by decide) rfl ?_
      refine bs_icmp_lt (tgt := 26) (pc' := 24) dX4_parseCommand_21 rfl rfl (fun _ => ?_) (fun c21 => absurd (by rw [h21]; exact nI_lt (b := 60) hcm (by decide)) c21)
      refine bs_aload_n (pc' := 27) dX4_parseCommand_26 rfl rfl rfl ?_
      refine bs_dup (pc' := 28) dX4_parseCommand_27 rfl rfl ?_
      refine bs_getf (pc' := 31) kf_X4_28 dX4_parseCommand_28 sk_o rfl rfl ?_
      refine bs_iconst (v := 1) (pc' := 32) dX4_parseCommand_31 (by decide) rfl ?_
      refine bs_iadd (pc' := 33) dX4_parseCommand_32 rfl ?_
      refine sk_pt5 (pc' := 36) kf_X4_28 dX4_parseCommand_33 rfl ?_
      rw [e3]
      refine bs_aload_n (pc' := 37) dX4_parseCommand_36 rfl rfl rfl ?_
      refine bs_callV (N := mX4_skipSpaces) (pc' := 40) dX4_parseCommand_37 km_X4_31 ko_X4_skipSpaces (ss_skipSpaces hD hk) sk_o rfl rfl rfl (by omega) (Nat.le_refl _) (Nat.le_refl _) rfl ?_
      rintro _ _ ⟨rfl, rfl⟩
      refine bs_iconst (v := 0) (pc' := 41) dX4_parseCommand_40 (by decide) rfl ?_
      refine bs_istore_n (pc' := 42) (lv' := [(0, _), (1, _), (2, _), (3, _)]) dX4_parseCommand_41 rfl rfl rfl ?_
      exact loop m 0 _ (Nat.zero_add _) b1 (by rw [b3 21 (by decide), sAt_n (by decide)]) (by omega) rfl
  refine bs_aload_n (pc' := 1) dX4_parseCommand_0 rfl rfl rfl ?_
  refine bs_callV (N := mX4_byteHere) (pc' := 4) dX4_parseCommand_1 km_X4_38 ko_X4_byteHere (ss_byteHere hD hp) sk_o rfl rfl rfl (by omega) (Nat.le_refl _) (Nat.le_refl _) rfl ?_
  rintro _ _ ⟨rfl, rfl⟩
  refine bs_istore_n (pc' := 5) (lv' := [(0, _), (1, _)]) dX4_parseCommand_4 rfl rfl rfl ?_
  refine bs_iload_n (pc' := 6) dX4_parseCommand_5 rfl rfl ?_
  refine bs_callS (N := mX4_argumentsOf) (pc' := 9) dX4_parseCommand_6 km_X4_42 ko_X4_argumentsOf ss_argumentsOf rfl rfl rfl (by omega) (Nat.le_refl _) (Nat.le_refl _) rfl ?_
  rintro _ _ ⟨rfl, rfl⟩
  exact j9
theorem ccmd_21 (h : pOk ψ) (hc : (c_cmd ψ).1 = true) : (c_cmd ψ).2 21 0 = ψ 21 0 + 1 := by
  have hn := h.n
  have key : ∀ r : Bool × MS, r = c_cmd ψ → r.1 = true → r.2 21 0 = ψ 21 0 + 1 := by
    intro r e q
    unfold c_cmd at e
    cases hm : mny (bHere ψ) with
    | none =>
      rw [hm] at e
      rw [e] at q
      exact Bool.noConfusion (show false = true from q)
    | some m =>
      have hlt := here_lt hm
      have hk := pOk_at (a := pA ψ + 1) h (by omega) (by omega)
      obtain ⟨b1, b2, b3⟩ := pOk_bl hk
      obtain ⟨n1, n2, n3⟩ := args_ok (base := 3 * zN (ψ 21 0)) m 0 _ b1
      have e21 : (c_args (3 * zN (ψ 21 0)) m 0 (t_bl (sAt ψ (pA ψ + 1)))).2 21 = ψ 21 := by rw [n3 21 (by decide) (by decide), b3 21 (by decide), sAt_n (by decide)]
      rw [hm] at e
      dsimp only at e
      by_cases h1 : (c_args (3 * zN (ψ 21 0)) m 0 (t_bl (sAt ψ (pA ψ + 1)))).1 = true
      · rw [if_pos h1] at e
        unfold c_end at e
        by_cases h2 : bHere (c_args (3 * zN (ψ 21 0)) m 0 (t_bl (sAt ψ (pA ψ + 1)))).2 = 59
        · rw [if_pos h2, e21] at e
          rw [e]
          dsimp only
          rw [ms_u_k]
          exact if_pos rfl
        · rw [if_neg h2] at e
          rw [e] at q
          exact Bool.noConfusion (show false = true from q)
      · rw [if_neg h1] at e
        rw [e] at q
        exact Bool.noConfusion (show false = true from q)
  exact key _ rfl hc
theorem ss_parse (hD : d4 o x l r) (hI : mInv ψ) : sSp G h o x l r ψ mX4_parse 4 [] (sQ G h o x l r (c_par ψ).2 (if (c_par ψ).1 = true then -1 else (c_par ψ).2 22 0)) := by
  have hx : pOk (ms_u (ms_u ψ 21 0 0) 22 0 0) := ⟨mInv_u (mInv_u hI (by decide)) (by decide), rfl, Nat.zero_le _, rfl, Nat.le_refl _⟩
  have ecomm : ms_u (ms_u ψ 21 0 0) 22 0 0 = ms_u (ms_u ψ 22 0 0) 21 0 0 := by
    funext k
    by_cases h1 : k = 21
    · subst h1; rw [ms_u_n (by decide), ms_u_k, ms_u_k, ms_u_n (by decide)]
    · by_cases h2 : k = 22
      · subst h2; rw [ms_u_k, ms_u_n (by decide), ms_u_n (by decide), ms_u_k]
      · rw [ms_u_n h2, ms_u_n h1, ms_u_n h1, ms_u_n h2]
  obtain ⟨i1, i2⟩ := ini_ok hI
  refine bs_Sp.of (by decide) rfl ?_
  have fin : ∀ (r0 : Bool × MS) (j : Int32), sB G h o x l r r0.2 mX4_parse 4 53 [(0, .ref o), (1, .int (bI r0.1)), (2, .int j)] [] (sQ G h o x l r r0.2 (if r0.1 = true then -1 else r0.2 22 0)) := by
    intro r0 j
    refine bs_iload_n (pc' := 54) dX4_parse_53 rfl rfl ?_
    refine bs_if_eq (tgt := 61) (pc' := 57) dX4_parse_54 rfl rfl (fun c54 => ?_) (fun c54 => ?_)
    · refine bs_aload_n (pc' := 62) dX4_parse_61 rfl rfl rfl ?_
      refine bs_getf (pc' := 65) kf_X4_28 dX4_parse_62 sk_o rfl rfl ?_
      exact bs_iret dX4_parse_65 rfl ⟨by first | (rw [bI_0] at c54; rw [if_neg (by rw [c54]; decide)]) | (rw [bI_n0] at c54; rw [if_pos c54]), rfl⟩
    · refine bs_iconst (v := (-1)) (pc' := 58) dX4_parse_57 (by decide) rfl ?_
      refine bs_goto (tgt := 65) dX4_parse_58 rfl ?_
      exact bs_iret dX4_parse_65 rfl ⟨by first | (rw [bI_0] at c54; rw [if_neg (by rw [c54]; decide)]) | (rw [bI_n0] at c54; rw [if_pos c54]), rfl⟩
  have bad : ∀ (r0 : Bool × MS) (j : Int32), r0.1 = false → c_par ψ = r0 → sB G h o x l r r0.2 mX4_parse 4 21 [(0, .ref o), (1, .int (bI r0.1)), (2, .int j)] [] (sQ G h o x l r (c_par ψ).2 (if (c_par ψ).1 = true then -1 else (c_par ψ).2 22 0)) := by
    intro r0 j hc e
    rw [e]
    refine bs_iload_n (pc' := 22) dX4_parse_21 rfl rfl ?_
    refine bs_bipush (v := 60) (pc' := 24) dX4_parse_22 (by decide) rfl ?_
    refine bs_icmp_ge (tgt := 53) (pc' := 27) dX4_parse_24 rfl rfl (fun c24 => ?_) (fun c24 => ?_)
    · exact fin r0 j
    · refine bs_iload_n (pc' := 28) dX4_parse_27 rfl rfl ?_
      refine bs_if_eq (tgt := 53) (pc' := 31) dX4_parse_28 rfl rfl (fun _ => ?_) (fun c28 => absurd (by rw [hc]; rfl) c28)
      exact fin r0 j
  have loop : ∀ f (τ : MS) (i : Nat), pOk τ → τ 21 0 = nI i → i ≤ 60 → pN τ + 1 ≤ pA τ + f → c_par ψ = (if pA τ < pN τ then c_all f τ else (true, τ)) → sB G h o x l r τ mX4_parse 4 21 [(0, .ref o), (1, .int (bI true)), (2, .int (nI i))] [] (sQ G h o x l r (c_par ψ).2 (if (c_par ψ).1 = true then -1 else (c_par ψ).2 22 0)) := by
    intro f
    induction f with
    | zero =>
      intro τ i hp hi h60 hf
      exact absurd hp.2.2.1 (by omega)
    | succ f ih =>
      intro τ i hp hi h60 hf e
      obtain ⟨c1, c2, c3, c4⟩ := ccmd_ok hp
      have hn := hp.n
      have hpa := hp.2.2.1
      have ei : zN (τ 21 0) = i := by rw [hi]; exact zN_nI (by omega)
      have h2i := hp.2.2.2.2
      rw [ei] at h2i
      have eN : pN (c_cmd τ).2 = pN τ := by unfold pN; rw [c4 18 (by decide)]
      by_cases hlt : pA τ < pN τ
      · rw [if_pos hlt, c_all] at e
        have j46 : sB G h o x l r (c_cmd τ).2 mX4_parse 4 46 [(0, .ref o), (1, .int (bI true)), (2, .int (nI i))] [.int (bI (c_cmd τ).1)] (sQ G h o x l r (c_par ψ).2 (if (c_par ψ).1 = true then -1 else (c_par ψ).2 22 0)) := by
          by_cases hc : (c_cmd τ).1 = true
          · rw [if_pos hc] at e
            have h3 := c3 hc
            have e21 : (c_cmd τ).2 21 0 = nI (i + 1) := by rw [ccmd_21 hp hc, hi, nI_1]
            have ih := ih _ (i + 1) c1 e21 (by omega) (by omega) e
            rw [hc]
            refine bs_istore_n (pc' := 47) (lv' := [(0, _), (1, _), (2, _)]) dX4_parse_46 rfl rfl rfl ?_
            refine bs_iinc (pc' := 50) (lv' := [(0, _), (1, _), (2, _)]) dX4_parse_47 rfl (nI_i1 i) rfl rfl rfl ?_
            refine bs_goto (tgt := 21) dX4_parse_50 rfl ?_
            exact ih
          · have hc' : (c_cmd τ).1 = false := by simpa using hc
            rw [if_neg hc] at e
            have ih := bad (c_cmd τ) (nI (i + 1)) hc' e
            refine bs_istore_n (pc' := 47) (lv' := [(0, _), (1, _), (2, _)]) dX4_parse_46 rfl rfl rfl ?_
            refine bs_iinc (pc' := 50) (lv' := [(0, _), (1, _), (2, _)]) dX4_parse_47 rfl (nI_i1 i) rfl rfl rfl ?_
            refine bs_goto (tgt := 21) dX4_parse_50 rfl ?_
            exact ih
        refine bs_iload_n (pc' := 22) dX4_parse_21 rfl rfl ?_
        refine bs_bipush (v := 60) (pc' := 24) dX4_parse_22 (by decide) rfl ?_
        refine bs_icmp_ge (tgt := 53) (pc' := 27) dX4_parse_24 rfl rfl (fun c24 => absurd c24 (nI_ge (b := 60) (by omega) (by decide))) (fun _ => ?_)
        refine bs_iload_n (pc' := 28) dX4_parse_27 rfl rfl ?_
        refine bs_if_eq (tgt := 53) (pc' := 31) dX4_parse_28 rfl rfl (fun c28 => absurd c28 (by decide)) (fun _ => ?_)
        refine bs_aload_n (pc' := 32) dX4_parse_31 rfl rfl rfl ?_
        refine bs_getf (pc' := 35) kf_X4_28 dX4_parse_32 sk_o rfl rfl ?_
        refine bs_aload_n (pc' := 36) dX4_parse_35 rfl rfl rfl ?_
        refine bs_getf (pc' := 39) kf_X4_21 dX4_parse_36 sk_o rfl rfl ?_
        refine bs_icmp_ge (tgt := 53) (pc' := 42) dX4_parse_39 rfl rfl (fun c39 => absurd c39 (by rw [hp.2.1, hp.1.ln.1]; exact nI_ge hlt (by show pN τ < _; omega))) (fun _ => ?_)
        refine bs_aload_n (pc' := 43) dX4_parse_42 rfl rfl rfl ?_
        refine bs_callV (N := mX4_parseCommand) (pc' := 46) dX4_parse_43 km_X4_34 ko_X4_parseCommand (ss_parseCommand hD hp) sk_o rfl rfl rfl (by omega) (Nat.le_refl _) (Nat.le_refl _) rfl ?_
        rintro _ _ ⟨rfl, rfl⟩
        exact j46
      · rw [if_neg hlt] at e
        have lp := fin (true, τ) (nI i)
        rw [e]
        refine bs_iload_n (pc' := 22) dX4_parse_21 rfl rfl ?_
        refine bs_bipush (v := 60) (pc' := 24) dX4_parse_22 (by decide) rfl ?_
        refine bs_icmp_ge (tgt := 53) (pc' := 27) dX4_parse_24 rfl rfl (fun c24 => ?_) (fun c24 => ?_)
        · exact lp
        · refine bs_iload_n (pc' := 28) dX4_parse_27 rfl rfl ?_
          refine bs_if_eq (tgt := 53) (pc' := 31) dX4_parse_28 rfl rfl (fun c28 => absurd c28 (by decide)) (fun _ => ?_)
          refine bs_aload_n (pc' := 32) dX4_parse_31 rfl rfl rfl ?_
          refine bs_getf (pc' := 35) kf_X4_28 dX4_parse_32 sk_o rfl rfl ?_
          refine bs_aload_n (pc' := 36) dX4_parse_35 rfl rfl rfl ?_
          refine bs_getf (pc' := 39) kf_X4_21 dX4_parse_36 sk_o rfl rfl ?_
          refine bs_icmp_ge (tgt := 53) (pc' := 42) dX4_parse_39 rfl rfl (fun _ => ?_) (fun c39 => absurd (by rw [hp.2.1, hp.1.ln.1]; exact nI_le (by show pN τ ≤ _; omega) (by omega)) c39)
          exact lp
  have eN : pN (t_ini ψ) = pN ψ := by unfold pN; rw [i2 18 (by decide)]
  have z21 : t_ini ψ 21 0 = 0 := by
    show t_bl (ms_u (ms_u ψ 22 0 0) 21 0 0) 21 0 = 0
    rw [(pOk_bl ⟨mInv_u (mInv_u hI (by decide)) (by decide), rfl, Nat.zero_le _, rfl, Nat.le_refl _⟩).2.2 21 (by decide), ms_u_k]
    exact if_pos rfl
  have j18 : sB G h o x l r (c_cmd (t_ini ψ)).2 mX4_parse 4 21 [(0, .ref o), (1, .int (bI (c_cmd (t_ini ψ)).1)), (2, .int 1)] [] (sQ G h o x l r (c_par ψ).2 (if (c_par ψ).1 = true then -1 else (c_par ψ).2 22 0)) := by
    obtain ⟨c1, c2, c3, c4⟩ := ccmd_ok i1
    have hn := i1.n
    have eN2 : pN (c_cmd (t_ini ψ)).2 = pN (t_ini ψ) := by unfold pN; rw [c4 18 (by decide)]
    have e : c_par ψ = c_all (pN ψ + 1) (t_ini ψ) := rfl
    rw [c_all] at e
    by_cases hc : (c_cmd (t_ini ψ)).1 = true
    · rw [if_pos hc] at e
      have h3 := c3 hc
      have e21 : (c_cmd (t_ini ψ)).2 21 0 = nI 1 := by rw [ccmd_21 i1 hc, z21]; decide
      have lp := loop (pN ψ) _ 1 c1 e21 (by decide) (by omega) e
      rw [hc]
      exact lp
    · have hc' : (c_cmd (t_ini ψ)).1 = false := by simpa using hc
      rw [if_neg hc] at e
      exact bad _ _ hc' e
  refine bs_aload_n (pc' := 1) dX4_parse_0 rfl rfl rfl ?_
  refine bs_iconst (v := 0) (pc' := 2) dX4_parse_1 (by decide) rfl ?_
  refine sk_pt4 (pc' := 5) kf_X4_25 dX4_parse_2 rfl ?_
  refine bs_aload_n (pc' := 6) dX4_parse_5 rfl rfl rfl ?_
  refine bs_iconst (v := 0) (pc' := 7) dX4_parse_6 (by decide) rfl ?_
  refine sk_pt5 (pc' := 10) kf_X4_28 dX4_parse_7 rfl ?_
  refine bs_aload_n (pc' := 11) dX4_parse_10 rfl rfl rfl ?_
  refine bs_callV (N := mX4_skipSpaces) (pc' := 14) dX4_parse_11 km_X4_31 ko_X4_skipSpaces (ss_skipSpaces hD hx) sk_o rfl rfl rfl (by omega) (Nat.le_refl _) (Nat.le_refl _) rfl ?_
  rintro _ _ ⟨rfl, rfl⟩
  rw [ecomm]
  refine bs_aload_n (pc' := 15) dX4_parse_14 rfl rfl rfl ?_
  refine bs_callV (N := mX4_parseCommand) (pc' := 18) dX4_parse_15 km_X4_34 ko_X4_parseCommand (ss_parseCommand hD i1) sk_o rfl rfl rfl (by omega) (Nat.le_refl _) (Nat.le_refl _) rfl ?_
  rintro _ _ ⟨rfl, rfl⟩
  refine bs_istore_n (pc' := 19) (lv' := [(0, _), (1, _)]) dX4_parse_18 rfl rfl rfl ?_
  refine bs_iconst (v := 1) (pc' := 20) dX4_parse_19 (by decide) rfl ?_
  refine bs_istore_n (pc' := 21) (lv' := [(0, _), (1, _), (2, _)]) dX4_parse_20 rfl rfl rfl ?_
  exact j18
theorem ss_addByte {v : Int32} (hD : d4 o x l r) (hln : nn (ψ 18 0) 120) : sSp G h o x l r ψ mX4_addByte 0 [.int v] (fun z h' => if zN (ψ 18 0) < 120 then z = some (.int 1) ∧ h' = skH G h o x l r (ms_u (ms_u ψ 17 (zN (ψ 18 0)) v) 18 0 (ψ 18 0 + 1)) else z = some (.int 0) ∧ h' = skH G h o x l r ψ) := by
  have h2 := hln.2
  refine bs_Sp.of (by decide) rfl ?_
  by_cases hlt : zN (ψ 18 0) < 120
  · simp only [if_pos hlt]
    refine bs_aload_n (pc' := 1) dX4_addByte_0 rfl rfl rfl ?_
    refine bs_getf (pc' := 4) kf_X4_21 dX4_addByte_1 sk_o rfl rfl ?_
    refine bs_bipush (v := 120) (pc' := 6) dX4_addByte_4 (by decide) rfl ?_
    refine bs_icmp_lt (tgt := 11) (pc' := 9) dX4_addByte_6 rfl rfl (fun _ => ?_) (fun c6 => absurd (by rw [hln.1]; exact nI_lt (b := 120) hlt (by decide)) c6)
    refine bs_aload_n (pc' := 12) dX4_addByte_11 rfl rfl rfl ?_
    refine bs_getf (pc' := 15) kf_X4_9 dX4_addByte_12 sk_o rfl rfl ?_
    refine bs_aload_n (pc' := 16) dX4_addByte_15 rfl rfl rfl ?_
    refine bs_getf (pc' := 19) kf_X4_21 dX4_addByte_16 sk_o rfl rfl ?_
    refine bs_iload_n (pc' := 20) dX4_addByte_19 rfl rfl ?_
    refine sk_st0 (pc' := 21) dX4_addByte_20 hD (zN (ψ 18 0)) hln.1 hlt rfl ?_
    refine bs_aload_n (pc' := 22) dX4_addByte_21 rfl rfl rfl ?_
    refine bs_dup (pc' := 23) dX4_addByte_22 rfl rfl ?_
    refine bs_getf (pc' := 26) kf_X4_21 dX4_addByte_23 sk_o rfl rfl ?_
    refine bs_iconst (v := 1) (pc' := 27) dX4_addByte_26 (by decide) rfl ?_
    refine bs_iadd (pc' := 28) dX4_addByte_27 rfl ?_
    refine sk_pt1 (pc' := 31) kf_X4_21 dX4_addByte_28 rfl ?_
    refine bs_iconst (v := 1) (pc' := 32) dX4_addByte_31 (by decide) rfl ?_
    exact bs_zret dX4_addByte_32 rfl (by decide) ⟨rfl, rfl⟩
  · simp only [if_neg hlt]
    refine bs_aload_n (pc' := 1) dX4_addByte_0 rfl rfl rfl ?_
    refine bs_getf (pc' := 4) kf_X4_21 dX4_addByte_1 sk_o rfl rfl ?_
    refine bs_bipush (v := 120) (pc' := 6) dX4_addByte_4 (by decide) rfl ?_
    refine bs_icmp_lt (tgt := 11) (pc' := 9) dX4_addByte_6 rfl rfl (fun c6 => absurd c6 (by rw [hln.1]; exact nI_nlt (b := 120) (by omega) (by omega))) (fun _ => ?_)
    refine bs_iconst (v := 0) (pc' := 10) dX4_addByte_9 (by decide) rfl ?_
    exact bs_zret dX4_addByte_10 rfl (by decide) ⟨rfl, rfl⟩
theorem ss_letter {k n : Nat} (hD : d4 o x l r) (en : ψ 21 0 = nI n) (hk : k < n) (h60 : n ≤ 60) : sSp G h o x l r ψ mX4_letter 0 [.int (nI k)] (sQ G h o x l r ψ (ψ 19 k)) := by
  refine bs_Sp.of (by decide) rfl ?_
  refine bs_iload_n (pc' := 1) dX4_letter_0 rfl rfl ?_
  refine bs_if_lt (tgt := 21) (pc' := 4) dX4_letter_1 rfl rfl (fun c1 => absurd c1 (Int32.not_lt.mpr (nI_pos' (by omega)))) (fun _ => ?_)
  refine bs_iload_n (pc' := 5) dX4_letter_4 rfl rfl ?_
  refine bs_aload_n (pc' := 6) dX4_letter_5 rfl rfl rfl ?_
  refine bs_getf (pc' := 9) kf_X4_25 dX4_letter_6 sk_o rfl rfl ?_
  refine bs_icmp_ge (tgt := 21) (pc' := 12) dX4_letter_9 rfl rfl (fun c9 => absurd c9 (by rw [en]; exact nI_ge hk (by omega))) (fun _ => ?_)
  refine bs_aload_n (pc' := 13) dX4_letter_12 rfl rfl rfl ?_
  refine bs_getf (pc' := 16) kf_X4_15 dX4_letter_13 sk_o rfl rfl ?_
  refine bs_iload_n (pc' := 17) dX4_letter_16 rfl rfl ?_
  refine bs_ild (pc' := 18) dX4_letter_17 (sk_l hD) k rfl ⟨by omega, by decide⟩ rfl ?_
  refine bs_goto (tgt := 22) dX4_letter_18 rfl ?_
  exact bs_iret dX4_letter_22 rfl ⟨rfl, rfl⟩
theorem ss_argument {k j n : Nat} (hD : d4 o x l r) (en : ψ 21 0 = nI n) (hk : k < n) (h60 : n ≤ 60) (hj : j < 3) : sSp G h o x l r ψ mX4_argument 0 [.int (nI k), .int (nI j)] (sQ G h o x l r ψ (ψ 20 (3 * k + j))) := by
  refine bs_Sp.of (by decide) rfl ?_
  refine bs_iload_n (pc' := 1) dX4_argument_0 rfl rfl ?_
  refine bs_if_lt (tgt := 25) (pc' := 4) dX4_argument_1 rfl rfl (fun c1 => absurd c1 (Int32.not_lt.mpr (nI_pos' (by omega)))) (fun _ => ?_)
  refine bs_iload_n (pc' := 5) dX4_argument_4 rfl rfl ?_
  refine bs_aload_n (pc' := 6) dX4_argument_5 rfl rfl rfl ?_
  refine bs_getf (pc' := 9) kf_X4_25 dX4_argument_6 sk_o rfl rfl ?_
  refine bs_icmp_ge (tgt := 25) (pc' := 12) dX4_argument_9 rfl rfl (fun c9 => absurd c9 (by rw [en]; exact nI_ge hk (by omega))) (fun _ => ?_)
  refine bs_iload_n (pc' := 13) dX4_argument_12 rfl rfl ?_
  refine bs_if_lt (tgt := 25) (pc' := 16) dX4_argument_13 rfl rfl (fun c13 => absurd c13 (Int32.not_lt.mpr (nI_pos' (by omega)))) (fun _ => ?_)
  refine bs_iload_n (pc' := 17) dX4_argument_16 rfl rfl ?_
  refine bs_iconst (v := 3) (pc' := 18) dX4_argument_17 (by decide) rfl ?_
  refine bs_icmp_ge (tgt := 25) (pc' := 21) dX4_argument_18 rfl rfl (fun c18 => absurd c18 (nI_ge (b := 3) hj (by decide))) (fun _ => ?_)
  refine bs_iconst (v := 1) (pc' := 22) dX4_argument_21 (by decide) rfl ?_
  refine bs_goto (tgt := 26) dX4_argument_22 rfl ?_
  refine bs_istore_n (pc' := 27) (lv' := [(0, _), (1, _), (2, _), (3, _)]) dX4_argument_26 rfl rfl rfl ?_
  refine bs_iload_n (pc' := 28) dX4_argument_27 rfl rfl ?_
  refine bs_if_eq (tgt := 44) (pc' := 31) dX4_argument_28 rfl rfl (fun c28 => absurd c28 (by decide)) (fun _ => ?_)
  refine bs_aload_n (pc' := 32) dX4_argument_31 rfl rfl rfl ?_
  refine bs_getf (pc' := 35) kf_X4_18 dX4_argument_32 sk_o rfl rfl ?_
  refine bs_iload_n (pc' := 36) dX4_argument_35 rfl rfl ?_
  refine bs_iconst (v := 3) (pc' := 37) dX4_argument_36 (by decide) rfl ?_
  refine bs_imul (pc' := 38) dX4_argument_37 rfl ?_
  refine bs_iload_n (pc' := 39) dX4_argument_38 rfl rfl ?_
  refine bs_iadd (pc' := 40) dX4_argument_39 rfl ?_
  refine bs_ild (pc' := 41) dX4_argument_40 (sk_r hD) (3 * k + j) (by rw [show (3 : Int32) = nI 3 from rfl, pk_mul, nI_add, Nat.mul_comm]) ⟨by omega, by decide⟩ rfl ?_
  refine bs_goto (tgt := 45) dX4_argument_41 rfl ?_
  exact bs_iret dX4_argument_45 rfl ⟨rfl, rfl⟩
end Script1
