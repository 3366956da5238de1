section Cell1
variable {G : GG} {h : Hp} {e t p q : Nat} {tg pm pr : Nat → Int32} {n : Nat} {v : Int32} {k s : Nat} {ser : Nat → Int32} {dp : Nat} {lat : Int32}
theorem sc_isActive {h : Hp} {x : Int32} (hK : kAt G h k s ser (nI dp) lat) (hdp : dp ≤ 5) : bs_Sp G mX1_isActive 0 0 0 [.ref k, .int x] h (fun v h' => v = some (.int (bI (acf ser x dp 0))) ∧ h' = h) := by
  refine bs_Sp.of (by decide) rfl ?_
  have loop : ∀ f i, i + f = dp → bs_B G (fun _ => True) mX1_isActive 0 0 0 h 2 [(0, .ref k), (1, .int x), (2, .int (nI i))] [] (fun v h' => v = some (.int (bI (acf ser x f i))) ∧ h' = h) := by
    intro f
    induction f with
    | zero =>
      intro i hi
      refine bs_iload_n (pc' := 3) dX1_isActive_2 rfl rfl ?_
      refine bs_aload_n (pc' := 4) dX1_isActive_3 rfl rfl rfl ?_
      refine bs_getf (pc' := 7) kf_X1_19 dX1_isActive_4 hK.1 rfl rfl ?_
      refine bs_icmp_ge (tgt := 28) (pc' := 10) dX1_isActive_7 rfl rfl (fun _ => ?_) (fun c7 => absurd (nI_le (by omega) (by omega)) c7)
      refine bs_iconst (v := 0) (pc' := 29) dX1_isActive_28 (by decide) rfl ?_
      exact bs_zret dX1_isActive_29 rfl (by decide) ⟨rfl, rfl⟩
    | succ f ih =>
      intro i hi
      refine bs_iload_n (pc' := 3) dX1_isActive_2 rfl rfl ?_
      refine bs_aload_n (pc' := 4) dX1_isActive_3 rfl rfl rfl ?_
      refine bs_getf (pc' := 7) kf_X1_19 dX1_isActive_4 hK.1 rfl rfl ?_
      refine bs_icmp_ge (tgt := 28) (pc' := 10) dX1_isActive_7 rfl rfl (fun c7 => absurd c7 (nI_ge (by omega) (by omega))) (fun _ => ?_)
      refine bs_aload_n (pc' := 11) dX1_isActive_10 rfl rfl rfl ?_
      refine bs_getf (pc' := 14) kf_X1_9 dX1_isActive_11 hK.1 rfl rfl ?_
      refine bs_iload_n (pc' := 15) dX1_isActive_14 rfl rfl ?_
      refine bs_ild (pc' := 16) dX1_isActive_15 hK.2 i rfl ⟨by omega, by decide⟩ rfl ?_
      refine bs_iload_n (pc' := 17) dX1_isActive_16 rfl rfl ?_
      refine bs_icmp_ne (tgt := 22) (pc' := 20) dX1_isActive_17 rfl rfl (fun c17 => ?_) (fun c17 => ?_)
      · refine bs_iinc (pc' := 25) (lv' := [(0, _), (1, _), (2, _)]) dX1_isActive_22 rfl (nI_i1 i) rfl rfl rfl ?_
        refine bs_goto (tgt := 2) dX1_isActive_25 rfl ?_
        rw [acf, decide_eq_false c17]
        exact ih (i + 1) (by omega)
      · refine bs_iconst (v := 1) (pc' := 21) dX1_isActive_20 (by decide) rfl ?_
        exact bs_zret dX1_isActive_21 rfl (by decide) ⟨by rw [acf, decide_eq_true c17]; rfl, rfl⟩
  refine bs_iconst (v := 0) (pc' := 1) dX1_isActive_0 (by decide) rfl ?_
  refine bs_istore_n (pc' := 2) (lv' := [(0, _), (1, _), (2, _)]) dX1_isActive_1 rfl rfl rfl ?_
  exact loop dp 0 (Nat.zero_add _)
theorem sc_hasItem {x : Int32} (hn : n ≤ 12) : bs_Sp G mX2_hasItem 0 0 0 [.ref e, .int x] (ce4 G h e t p q tg pm pr (nI n) v) (fun r h' => r = some (.int (bI (inb x n))) ∧ h' = ce4 G h e t p q tg pm pr (nI n) v) := by
  rw [inb_lt (by omega)]
  refine bs_Sp.of (by decide) rfl ?_
  refine bs_iload_n (pc' := 1) dX2_hasItem_0 rfl rfl ?_
  refine bs_if_lt (tgt := 16) (pc' := 4) dX2_hasItem_1 rfl rfl (fun c1 => ?_) (fun c1 => ?_)
  · refine bs_iconst (v := 0) (pc' := 17) dX2_hasItem_16 (by decide) rfl ?_
    exact bs_zret dX2_hasItem_17 rfl (by decide) ⟨by first | (rw [decide_eq_false (fun z => Int32.not_lt.mpr z.1 c1)]; rfl) | (rw [decide_eq_false (fun z => Int32.not_lt.mpr c9 z.2)]; rfl) | (rw [decide_eq_true ⟨Int32.not_lt.mp c1, Int32.not_le.mp c9⟩]; rfl), rfl⟩
  · refine bs_iload_n (pc' := 5) dX2_hasItem_4 rfl rfl ?_
    refine bs_aload_n (pc' := 6) dX2_hasItem_5 rfl rfl rfl ?_
    refine bs_getf (pc' := 9) kf_X2_21 dX2_hasItem_6 ce_e rfl rfl ?_
    refine bs_icmp_ge (tgt := 16) (pc' := 12) dX2_hasItem_9 rfl rfl (fun c9 => ?_) (fun c9 => ?_)
    · refine bs_iconst (v := 0) (pc' := 17) dX2_hasItem_16 (by decide) rfl ?_
      exact bs_zret dX2_hasItem_17 rfl (by decide) ⟨by first | (rw [decide_eq_false (fun z => Int32.not_lt.mpr z.1 c1)]; rfl) | (rw [decide_eq_false (fun z => Int32.not_lt.mpr c9 z.2)]; rfl) | (rw [decide_eq_true ⟨Int32.not_lt.mp c1, Int32.not_le.mp c9⟩]; rfl), rfl⟩
    · refine bs_iconst (v := 1) (pc' := 13) dX2_hasItem_12 (by decide) rfl ?_
      refine bs_goto (tgt := 17) dX2_hasItem_13 rfl ?_
      exact bs_zret dX2_hasItem_17 rfl (by decide) ⟨by first | (rw [decide_eq_false (fun z => Int32.not_lt.mpr z.1 c1)]; rfl) | (rw [decide_eq_false (fun z => Int32.not_lt.mpr c9 z.2)]; rfl) | (rw [decide_eq_true ⟨Int32.not_lt.mp c1, Int32.not_le.mp c9⟩]; rfl), rfl⟩
theorem sc_grantOfRead {x : Int32} (hD : d4 e t p q) (hn : n ≤ 12) : bs_Sp G mX2_grantOfRead 0 0 0 [.ref e, .int x] (ce4 G h e t p q tg pm pr (nI n) v) (fun r h' => r = some (.int (oI (grf tg pm x false n))) ∧ h' = ce4 G h e t p q tg pm pr (nI n) v) := by
  refine bs_Sp.of (by decide) rfl ?_
  have loop : ∀ m, m ≤ n → ∀ z, z = nI m - 1 → bs_B G (fun _ => True) mX2_grantOfRead 0 0 0 (ce4 G h e t p q tg pm pr (nI n) v) 7 [(0, .ref e), (1, .int x), (2, .int z)] [] (fun r h' => r = some (.int (oI (grf tg pm x false m))) ∧ h' = ce4 G h e t p q tg pm pr (nI n) v) := by
    intro m
    induction m with
    | zero =>
      intro _ z hz
      subst hz
      refine bs_iload_n (pc' := 8) dX2_grantOfRead_7 rfl rfl ?_
      refine bs_if_lt (tgt := 39) (pc' := 11) dX2_grantOfRead_8 rfl rfl (fun _ => ?_) (fun c8 => absurd (by decide) c8)
      refine bs_iconst (v := (-1)) (pc' := 40) dX2_grantOfRead_39 (by decide) rfl ?_
      exact bs_iret dX2_grantOfRead_40 rfl ⟨rfl, rfl⟩
    | succ m ih =>
      intro hm z hz
      rw [nI_pred] at hz
      subst hz
      refine bs_iload_n (pc' := 8) dX2_grantOfRead_7 rfl rfl ?_
      refine bs_if_lt (tgt := 39) (pc' := 11) dX2_grantOfRead_8 rfl rfl (fun c8 => absurd c8 (nI_pos (by omega))) (fun _ => ?_)
      refine bs_aload_n (pc' := 12) dX2_grantOfRead_11 rfl rfl rfl ?_
      refine bs_getf (pc' := 15) kf_X2_9 dX2_grantOfRead_12 ce_e rfl rfl ?_
      refine bs_iload_n (pc' := 16) dX2_grantOfRead_15 rfl rfl ?_
      refine bs_ild (pc' := 17) dX2_grantOfRead_16 (ce_t hD) m rfl ⟨by omega, by decide⟩ rfl ?_
      refine bs_iload_n (pc' := 18) dX2_grantOfRead_17 rfl rfl ?_
      refine bs_icmp_ne (tgt := 33) (pc' := 21) dX2_grantOfRead_18 rfl rfl (fun c18 => ?_) (fun c18 => ?_)
      · rw [grf, if_neg (by first | exact fun w => c18 w.1 | (rw [c28]; exact fun w => absurd w.2 (by decide)))]
        refine bs_iinc (pc' := 36) (lv' := [(0, _), (1, _), (2, _)]) dX2_grantOfRead_33 rfl rfl rfl rfl rfl ?_
        refine bs_goto (tgt := 7) dX2_grantOfRead_36 rfl ?_
        exact ih (by omega) _ (nI_m1 m)
      · refine bs_aload_n (pc' := 22) dX2_grantOfRead_21 rfl rfl rfl ?_
        refine bs_getf (pc' := 25) kf_X2_15 dX2_grantOfRead_22 ce_e rfl rfl ?_
        refine bs_iload_n (pc' := 26) dX2_grantOfRead_25 rfl rfl ?_
        refine bs_ild (pc' := 27) dX2_grantOfRead_26 (ce_p hD) m rfl ⟨by omega, by decide⟩ rfl ?_
        refine bs_iconst (v := 3) (pc' := 28) dX2_grantOfRead_27 (by decide) rfl ?_
        refine bs_icmp_eq (tgt := 33) (pc' := 31) dX2_grantOfRead_28 rfl rfl (fun c28 => ?_) (fun c28 => ?_)
        · rw [grf, if_neg (by first | exact fun w => c18 w.1 | (rw [c28]; exact fun w => absurd w.2 (by decide)))]
          refine bs_iinc (pc' := 36) (lv' := [(0, _), (1, _), (2, _)]) dX2_grantOfRead_33 rfl rfl rfl rfl rfl ?_
          refine bs_goto (tgt := 7) dX2_grantOfRead_36 rfl ?_
          exact ih (by omega) _ (nI_m1 m)
        · refine bs_iload_n (pc' := 32) dX2_grantOfRead_31 rfl rfl ?_
          exact bs_iret dX2_grantOfRead_32 rfl ⟨by rw [grf, if_pos ⟨c18, by simp [okp, c28]⟩]; rfl, rfl⟩
  refine bs_aload_n (pc' := 1) dX2_grantOfRead_0 rfl rfl rfl ?_
  refine bs_getf (pc' := 4) kf_X2_21 dX2_grantOfRead_1 ce_e rfl rfl ?_
  refine bs_iconst (v := 1) (pc' := 5) dX2_grantOfRead_4 (by decide) rfl ?_
  refine bs_isub (pc' := 6) dX2_grantOfRead_5 rfl ?_
  refine bs_istore_n (pc' := 7) (lv' := [(0, _), (1, _), (2, _)]) dX2_grantOfRead_6 rfl rfl rfl ?_
  exact loop n (Nat.le_refl n) _ rfl
theorem sc_grantOfWrite {x : Int32} (hD : d4 e t p q) (hn : n ≤ 12) (hpm : pOK pm n) : bs_Sp G mX2_grantOfWrite 0 0 0 [.ref e, .int x] (ce4 G h e t p q tg pm pr (nI n) v) (fun r h' => r = some (.int (oI (grf tg pm x true n))) ∧ h' = ce4 G h e t p q tg pm pr (nI n) v) := by
  refine bs_Sp.of (by decide) rfl ?_
  have loop : ∀ m, m ≤ n → ∀ z, z = nI m - 1 → bs_B G (fun _ => True) mX2_grantOfWrite 0 0 0 (ce4 G h e t p q tg pm pr (nI n) v) 7 [(0, .ref e), (1, .int x), (2, .int z)] [] (fun r h' => r = some (.int (oI (grf tg pm x true m))) ∧ h' = ce4 G h e t p q tg pm pr (nI n) v) := by
    intro m
    induction m with
    | zero =>
      intro _ z hz
      subst hz
      refine bs_iload_n (pc' := 8) dX2_grantOfWrite_7 rfl rfl ?_
      refine bs_if_lt (tgt := 48) (pc' := 11) dX2_grantOfWrite_8 rfl rfl (fun _ => ?_) (fun c8 => absurd (by decide) c8)
      refine bs_iconst (v := (-1)) (pc' := 49) dX2_grantOfWrite_48 (by decide) rfl ?_
      exact bs_iret dX2_grantOfWrite_49 rfl ⟨rfl, rfl⟩
    | succ m ih =>
      intro hm z hz
      rw [nI_pred] at hz
      subst hz
      have h4 := hpm m (by omega)
      refine bs_iload_n (pc' := 8) dX2_grantOfWrite_7 rfl rfl ?_
      refine bs_if_lt (tgt := 48) (pc' := 11) dX2_grantOfWrite_8 rfl rfl (fun c8 => absurd c8 (nI_pos (by omega))) (fun _ => ?_)
      refine bs_aload_n (pc' := 12) dX2_grantOfWrite_11 rfl rfl rfl ?_
      refine bs_getf (pc' := 15) kf_X2_9 dX2_grantOfWrite_12 ce_e rfl rfl ?_
      refine bs_iload_n (pc' := 16) dX2_grantOfWrite_15 rfl rfl ?_
      refine bs_ild (pc' := 17) dX2_grantOfWrite_16 (ce_t hD) m rfl ⟨by omega, by decide⟩ rfl ?_
      refine bs_iload_n (pc' := 18) dX2_grantOfWrite_17 rfl rfl ?_
      refine bs_icmp_ne (tgt := 42) (pc' := 21) dX2_grantOfWrite_18 rfl rfl (fun c18 => ?_) (fun c18 => ?_)
      · rw [grf, if_neg (by first | exact fun w => c18 w.1 | (rcases h4 with z | z | z | z; exact absurd z c27; exact absurd z c37; rw [z]; exact fun w => absurd w.2 (by decide); rw [z]; exact fun w => absurd w.2 (by decide)))]
        refine bs_iinc (pc' := 45) (lv' := [(0, _), (1, _), (2, _)]) dX2_grantOfWrite_42 rfl rfl rfl rfl rfl ?_
        refine bs_goto (tgt := 7) dX2_grantOfWrite_45 rfl ?_
        exact ih (by omega) _ (nI_m1 m)
      · refine bs_aload_n (pc' := 22) dX2_grantOfWrite_21 rfl rfl rfl ?_
        refine bs_getf (pc' := 25) kf_X2_15 dX2_grantOfWrite_22 ce_e rfl rfl ?_
        refine bs_iload_n (pc' := 26) dX2_grantOfWrite_25 rfl rfl ?_
        refine bs_ild (pc' := 27) dX2_grantOfWrite_26 (ce_p hD) m rfl ⟨by omega, by decide⟩ rfl ?_
        refine bs_if_eq (tgt := 40) (pc' := 30) dX2_grantOfWrite_27 rfl rfl (fun c27 => ?_) (fun c27 => ?_)
        · refine bs_iload_n (pc' := 41) dX2_grantOfWrite_40 rfl rfl ?_
          exact bs_iret dX2_grantOfWrite_41 rfl ⟨by rw [grf, if_pos ⟨c18, by first | (rw [c27]; decide) | (rw [c37]; decide)⟩]; rfl, rfl⟩
        · refine bs_aload_n (pc' := 31) dX2_grantOfWrite_30 rfl rfl rfl ?_
          refine bs_getf (pc' := 34) kf_X2_15 dX2_grantOfWrite_31 ce_e rfl rfl ?_
          refine bs_iload_n (pc' := 35) dX2_grantOfWrite_34 rfl rfl ?_
          refine bs_ild (pc' := 36) dX2_grantOfWrite_35 (ce_p hD) m rfl ⟨by omega, by decide⟩ rfl ?_
          refine bs_iconst (v := 1) (pc' := 37) dX2_grantOfWrite_36 (by decide) rfl ?_
          refine bs_icmp_ne (tgt := 42) (pc' := 40) dX2_grantOfWrite_37 rfl rfl (fun c37 => ?_) (fun c37 => ?_)
          · rw [grf, if_neg (by first | exact fun w => c18 w.1 | (rcases h4 with z | z | z | z; exact absurd z c27; exact absurd z c37; rw [z]; exact fun w => absurd w.2 (by decide); rw [z]; exact fun w => absurd w.2 (by decide)))]
            refine bs_iinc (pc' := 45) (lv' := [(0, _), (1, _), (2, _)]) dX2_grantOfWrite_42 rfl rfl rfl rfl rfl ?_
            refine bs_goto (tgt := 7) dX2_grantOfWrite_45 rfl ?_
            exact ih (by omega) _ (nI_m1 m)
          · refine bs_iload_n (pc' := 41) dX2_grantOfWrite_40 rfl rfl ?_
            exact bs_iret dX2_grantOfWrite_41 rfl ⟨by rw [grf, if_pos ⟨c18, by first | (rw [c27]; decide) | (rw [c37]; decide)⟩]; rfl, rfl⟩
  refine bs_aload_n (pc' := 1) dX2_grantOfWrite_0 rfl rfl rfl ?_
  refine bs_getf (pc' := 4) kf_X2_21 dX2_grantOfWrite_1 ce_e rfl rfl ?_
  refine bs_iconst (v := 1) (pc' := 5) dX2_grantOfWrite_4 (by decide) rfl ?_
  refine bs_isub (pc' := 6) dX2_grantOfWrite_5 rfl ?_
  refine bs_istore_n (pc' := 7) (lv' := [(0, _), (1, _), (2, _)]) dX2_grantOfWrite_6 rfl rfl rfl ?_
  exact loop n (Nat.le_refl n) _ rfl
theorem sc_keptByWrite {x : Int32} (hD : d4 e t p q) (hn : n ≤ 12) (hpm : pOK pm n) : bs_Sp G mX2_keptByWrite 1 0 0 [.ref e, .int x] (ce4 G h e t p q tg pm pr (nI n) v) (fun r h' => r = some (.int (nI (kpt tg pm x n))) ∧ h' = ce4 G h e t p q tg pm pr (nI n) v) := by
  unfold kpt
  refine bs_Sp.of (by decide) rfl ?_
  have j5 : bs_B G (fun _ => True) mX2_keptByWrite 1 0 0 (ce4 G h e t p q tg pm pr (nI n) v) 5 [(0, .ref e), (1, .int x)] [.int (oI (grf tg pm x true n))] (fun r h' => r = some (.int (nI (match grf tg pm x true n with | none => n | some k => abf pm n k))) ∧ h' = ce4 G h e t p q tg pm pr (nI n) v) := by
    cases hg : grf tg pm x true n with
    | none =>
      refine bs_istore_n (pc' := 6) (lv' := [(0, _), (1, _), (2, _)]) dX2_keptByWrite_5 rfl rfl rfl ?_
      refine bs_iload_n (pc' := 7) dX2_keptByWrite_6 rfl rfl ?_
      refine bs_iconst (v := (-1)) (pc' := 8) dX2_keptByWrite_7 (by decide) rfl ?_
      refine bs_icmp_ne (tgt := 16) (pc' := 11) dX2_keptByWrite_8 rfl rfl (fun c8 => absurd (show oI none = -1 from rfl) c8) (fun _ => ?_)
      refine bs_aload_n (pc' := 12) dX2_keptByWrite_11 rfl rfl rfl ?_
      refine bs_getf (pc' := 15) kf_X2_21 dX2_keptByWrite_12 ce_e rfl rfl ?_
      exact bs_iret dX2_keptByWrite_15 rfl ⟨rfl, rfl⟩
    | some g =>
      have hgn := grf_lt hg
      have loop : ∀ f j, j + f = n → bs_B G (fun _ => True) mX2_keptByWrite 1 0 0 (ce4 G h e t p q tg pm pr (nI n) v) 30 [(0, .ref e), (1, .int x), (2, .int (nI g)), (3, .int (nI j))] [] (fun r h' => r = some (.int (nI (srw pm f j))) ∧ h' = ce4 G h e t p q tg pm pr (nI n) v) := by
        intro f
        induction f with
        | zero =>
          intro j hj
          refine bs_iload_n (pc' := 31) dX2_keptByWrite_30 rfl rfl ?_
          refine bs_aload_n (pc' := 32) dX2_keptByWrite_31 rfl rfl rfl ?_
          refine bs_getf (pc' := 35) kf_X2_21 dX2_keptByWrite_32 ce_e rfl rfl ?_
          refine bs_icmp_ge (tgt := 54) (pc' := 38) dX2_keptByWrite_35 rfl rfl (fun _ => ?_) (fun c35 => absurd (nI_le (by omega) (by omega)) c35)
          refine bs_iload_n (pc' := 55) dX2_keptByWrite_54 rfl rfl ?_
          exact bs_iret dX2_keptByWrite_55 rfl ⟨rfl, rfl⟩
        | succ f ih =>
          intro j hj
          refine bs_iload_n (pc' := 31) dX2_keptByWrite_30 rfl rfl ?_
          refine bs_aload_n (pc' := 32) dX2_keptByWrite_31 rfl rfl rfl ?_
          refine bs_getf (pc' := 35) kf_X2_21 dX2_keptByWrite_32 ce_e rfl rfl ?_
          refine bs_icmp_ge (tgt := 54) (pc' := 38) dX2_keptByWrite_35 rfl rfl (fun c35 => absurd c35 (nI_ge (by omega) (by omega))) (fun _ => ?_)
          refine bs_aload_n (pc' := 39) dX2_keptByWrite_38 rfl rfl rfl ?_
          refine bs_getf (pc' := 42) kf_X2_15 dX2_keptByWrite_39 ce_e rfl rfl ?_
          refine bs_iload_n (pc' := 43) dX2_keptByWrite_42 rfl rfl ?_
          refine bs_ild (pc' := 44) dX2_keptByWrite_43 (ce_p hD) j rfl ⟨by omega, by decide⟩ rfl ?_
          refine bs_iconst (v := 1) (pc' := 45) dX2_keptByWrite_44 (by decide) rfl ?_
          refine bs_icmp_ne (tgt := 54) (pc' := 48) dX2_keptByWrite_45 rfl rfl (fun c45 => ?_) (fun c45 => ?_)
          · refine bs_iload_n (pc' := 55) dX2_keptByWrite_54 rfl rfl ?_
            exact bs_iret dX2_keptByWrite_55 rfl ⟨by rw [srw, if_neg c45], rfl⟩
          · refine bs_iinc (pc' := 51) (lv' := [(0, _), (1, _), (2, _), (3, _)]) dX2_keptByWrite_48 rfl (nI_i1 j) rfl rfl rfl ?_
            refine bs_goto (tgt := 30) dX2_keptByWrite_51 rfl ?_
            rw [srw, if_pos c45]
            exact ih (j + 1) (by omega)
      refine bs_istore_n (pc' := 6) (lv' := [(0, _), (1, _), (2, _)]) dX2_keptByWrite_5 rfl rfl rfl ?_
      refine bs_iload_n (pc' := 7) dX2_keptByWrite_6 rfl rfl ?_
      refine bs_iconst (v := (-1)) (pc' := 8) dX2_keptByWrite_7 (by decide) rfl ?_
      refine bs_icmp_ne (tgt := 16) (pc' := 11) dX2_keptByWrite_8 rfl rfl (fun _ => ?_) (fun c8 => absurd c8 (nI_ne_m1 (k := g) (by omega)))
      refine bs_iload_n (pc' := 17) dX2_keptByWrite_16 rfl rfl ?_
      refine bs_iconst (v := 1) (pc' := 18) dX2_keptByWrite_17 (by decide) rfl ?_
      refine bs_iadd (pc' := 19) dX2_keptByWrite_18 rfl ?_
      refine bs_topi (nI (g + 1)) (nI_1 g) ?_
      refine bs_istore_n (pc' := 20) (lv' := [(0, _), (1, _), (2, _), (3, _)]) dX2_keptByWrite_19 rfl rfl rfl ?_
      refine bs_aload_n (pc' := 21) dX2_keptByWrite_20 rfl rfl rfl ?_
      refine bs_getf (pc' := 24) kf_X2_15 dX2_keptByWrite_21 ce_e rfl rfl ?_
      refine bs_iload_n (pc' := 25) dX2_keptByWrite_24 rfl rfl ?_
      refine bs_ild (pc' := 26) dX2_keptByWrite_25 (ce_p hD) g rfl ⟨by omega, by decide⟩ rfl ?_
      refine bs_iconst (v := 1) (pc' := 27) dX2_keptByWrite_26 (by decide) rfl ?_
      refine bs_icmp_ne (tgt := 54) (pc' := 30) dX2_keptByWrite_27 rfl rfl (fun c27 => ?_) (fun c27 => ?_)
      · refine bs_iload_n (pc' := 55) dX2_keptByWrite_54 rfl rfl ?_
        exact bs_iret dX2_keptByWrite_55 rfl ⟨by show _ = some (Value.int (nI (abf pm n g))); rw [abf, if_neg c27], rfl⟩
      · have e : abf pm n g = srw pm (n - (g + 1)) (g + 1) := by rw [abf, if_pos c27]
        show bs_B G _ _ 1 0 0 _ 30 _ _ (fun r h' => r = some (.int (nI (abf pm n g))) ∧ _)
        rw [e]
        exact loop _ _ (by omega)
  refine bs_aload_n (pc' := 1) dX2_keptByWrite_0 rfl rfl rfl ?_
  refine bs_iload_n (pc' := 2) dX2_keptByWrite_1 rfl rfl ?_
  refine bs_callV (N := mX2_grantOfWrite) (pc' := 5) dX2_keptByWrite_2 km_X2_25 ko_X2_grantOfWrite (sc_grantOfWrite hD hn hpm) ce_e rfl rfl rfl (by omega) (Nat.le_refl _) (Nat.le_refl _) rfl ?_
  rintro _ _ ⟨rfl, rfl⟩
  exact j5
end Cell1
