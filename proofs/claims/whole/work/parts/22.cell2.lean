section Cell2
variable {G : GG} {h : Hp} {e t p q : Nat} {tg pm pr : Nat → Int32} {n : Nat} {v : Int32} {k s : Nat} {ser : Nat → Int32} {dp : Nat} {lat : Int32}
/-- the heap of a Cell -/
abbrev cH (G : GG) (h : Hp) (e t p q : Nat) (tg pm pr : Nat → Int32) (n : Nat) (v : Int32) : Hp := ce4 G h e t p q tg pm pr (nI n) v
abbrev cQ (H : Hp) (r : Int32) : Option Value → Hp → Prop := fun x h' => x = some (.int r) ∧ h' = H
theorem sc_hasProtectedFrom {j0 : Nat} (hD : d4 e t p q) (hn : n ≤ 12) (hj0 : j0 ≤ 13) (hK : kAt G (cH G h e t p q tg pm pr n v) k s ser (nI dp) lat) (hdp : dp ≤ 5) : bs_Sp G mX2_hasProtectedFrom 1 0 0 [.ref e, .int (nI j0), .ref k] (cH G h e t p q tg pm pr n v) (cQ (cH G h e t p q tg pm pr n v) (bI (gdb pm (fun j => acf ser (pr j) dp 0) true (n - j0) j0))) := by
  refine bs_Sp.of (by decide) rfl ?_
  have loop : ∀ f j, f = n - j → j ≤ 13 → bs_B G (fun _ => True) mX2_hasProtectedFrom 1 0 0 (cH G h e t p q tg pm pr n v) 2 [(0, .ref e), (1, .int (nI j0)), (2, .ref k), (3, .int (nI j))] [] (cQ (cH G h e t p q tg pm pr n v) (bI (gdb pm (fun j => acf ser (pr j) dp 0) true f j))) := by
    intro f
    induction f with
    | zero =>
      intro j hj hj13
      refine bs_iload_n (pc' := 3) dX2_hasProtectedFrom_2 rfl rfl ?_
      refine bs_aload_n (pc' := 4) dX2_hasProtectedFrom_3 rfl rfl rfl ?_
      refine bs_getf (pc' := 7) kf_X2_21 dX2_hasProtectedFrom_4 ce_e rfl rfl ?_
      refine bs_icmp_ge (tgt := 31) (pc' := 10) dX2_hasProtectedFrom_7 rfl rfl (fun _ => ?_) (fun c7 => absurd (nI_le (by omega) (by omega)) c7)
      refine bs_iconst (v := 0) (pc' := 32) dX2_hasProtectedFrom_31 (by decide) rfl ?_
      exact bs_zret dX2_hasProtectedFrom_32 rfl (by decide) ⟨rfl, rfl⟩
    | succ f ih =>
      intro j hj hj13
      refine bs_iload_n (pc' := 3) dX2_hasProtectedFrom_2 rfl rfl ?_
      refine bs_aload_n (pc' := 4) dX2_hasProtectedFrom_3 rfl rfl rfl ?_
      refine bs_getf (pc' := 7) kf_X2_21 dX2_hasProtectedFrom_4 ce_e rfl rfl ?_
      refine bs_icmp_ge (tgt := 31) (pc' := 10) dX2_hasProtectedFrom_7 rfl rfl (fun c7 => absurd c7 (nI_ge (by omega) (by omega))) (fun _ => ?_)
      refine bs_aload_n (pc' := 11) dX2_hasProtectedFrom_10 rfl rfl rfl ?_
      refine bs_aload_n (pc' := 12) dX2_hasProtectedFrom_11 rfl rfl rfl ?_
      refine bs_getf (pc' := 15) kf_X2_18 dX2_hasProtectedFrom_12 ce_e rfl rfl ?_
      refine bs_iload_n (pc' := 16) dX2_hasProtectedFrom_15 rfl rfl ?_
      refine bs_ild (pc' := 17) dX2_hasProtectedFrom_16 (ce_q hD) j rfl ⟨by omega, by decide⟩ rfl ?_
      refine bs_callV (N := mX1_isActive) (pc' := 20) dX2_hasProtectedFrom_17 km_X2_32 ko_X1_isActive (sc_isActive hK hdp) hK.1 rfl rfl rfl (by omega) (Nat.le_refl _) (Nat.le_refl _) rfl ?_
      rintro _ _ ⟨rfl, rfl⟩
      refine bs_if_eq (tgt := 25) (pc' := 23) dX2_hasProtectedFrom_20 rfl rfl (fun c20 => ?_) (fun c20 => ?_)
      · refine bs_iinc (pc' := 28) (lv' := [(0, _), (1, _), (2, _), (3, _)]) dX2_hasProtectedFrom_25 rfl (nI_i1 j) rfl rfl rfl ?_
        refine bs_goto (tgt := 2) dX2_hasProtectedFrom_28 rfl ?_
        rw [bI_0] at c20
        have l := ih (j + 1) (by omega) (by omega)
        rw [gdb, c20]
        exact l
      · refine bs_iconst (v := 1) (pc' := 24) dX2_hasProtectedFrom_23 (by decide) rfl ?_
        exact bs_zret dX2_hasProtectedFrom_24 rfl (by decide) ⟨by rw [bI_n0] at c20; rw [gdb, c20]; rfl, rfl⟩
  refine bs_iload_n (pc' := 1) dX2_hasProtectedFrom_0 rfl rfl ?_
  refine bs_istore_n (pc' := 2) (lv' := [(0, _), (1, _), (2, _), (3, _)]) dX2_hasProtectedFrom_1 rfl rfl rfl ?_
  exact loop _ j0 rfl hj0
theorem sc_readViolation {x : Int32} (hD : d4 e t p q) (hn : n ≤ 12) (hK : kAt G (cH G h e t p q tg pm pr n v) k s ser (nI dp) lat) (hdp : dp ≤ 5) : bs_Sp G mX2_readViolation 1 0 0 [.ref e, .int x, .ref k] (cH G h e t p q tg pm pr n v) (cQ (cH G h e t p q tg pm pr n v) (rdV tg pm (fun j => acf ser (pr j) dp 0) x n)) := by
  unfold rdV
  refine bs_Sp.of (by decide) rfl ?_
  have j5 : bs_B G (fun _ => True) mX2_readViolation 1 0 0 (cH G h e t p q tg pm pr n v) 5 [(0, .ref e), (1, .int x), (2, .ref k)] [.int (oI (grf tg pm x false n))] (cQ (cH G h e t p q tg pm pr n v) (match grf tg pm x false n with | none => 1 | some g => if gdb pm (fun j => acf ser (pr j) dp 0) false (n - (g + 1)) (g + 1) then 2 else 0)) := by
    cases hg : grf tg pm x false n with
    | none =>
      refine bs_istore_n (pc' := 6) (lv' := [(0, _), (1, _), (2, _), (3, _)]) dX2_readViolation_5 rfl rfl rfl ?_
      refine bs_iload_n (pc' := 7) dX2_readViolation_6 rfl rfl ?_
      refine bs_iconst (v := (-1)) (pc' := 8) dX2_readViolation_7 (by decide) rfl ?_
      refine bs_icmp_ne (tgt := 13) (pc' := 11) dX2_readViolation_8 rfl rfl (fun c8 => absurd (show oI none = -1 from rfl) c8) (fun _ => ?_)
      refine bs_iconst (v := 1) (pc' := 12) dX2_readViolation_11 (by decide) rfl ?_
      exact bs_iret dX2_readViolation_12 rfl ⟨rfl, rfl⟩
    | some g =>
      have hgn := grf_lt hg
      have loop : ∀ f j, j + f = n → bs_B G (fun _ => True) mX2_readViolation 1 0 0 (cH G h e t p q tg pm pr n v) 18 [(0, .ref e), (1, .int x), (2, .ref k), (3, .int (nI g)), (4, .int (nI j))] [] (cQ (cH G h e t p q tg pm pr n v) (if gdb pm (fun j => acf ser (pr j) dp 0) false f j then 2 else 0)) := by
        intro f
        induction f with
        | zero =>
          intro j hj
          refine bs_iload (pc' := 20) dX2_readViolation_18 rfl rfl ?_
          refine bs_aload_n (pc' := 21) dX2_readViolation_20 rfl rfl rfl ?_
          refine bs_getf (pc' := 24) kf_X2_21 dX2_readViolation_21 ce_e rfl rfl ?_
          refine bs_icmp_ge (tgt := 59) (pc' := 27) dX2_readViolation_24 rfl rfl (fun _ => ?_) (fun c24 => absurd (nI_le (by omega) (by omega)) c24)
          refine bs_iconst (v := 0) (pc' := 60) dX2_readViolation_59 (by decide) rfl ?_
          exact bs_iret dX2_readViolation_60 rfl ⟨rfl, rfl⟩
        | succ f ih =>
          intro j hj
          refine bs_iload (pc' := 20) dX2_readViolation_18 rfl rfl ?_
          refine bs_aload_n (pc' := 21) dX2_readViolation_20 rfl rfl rfl ?_
          refine bs_getf (pc' := 24) kf_X2_21 dX2_readViolation_21 ce_e rfl rfl ?_
          refine bs_icmp_ge (tgt := 59) (pc' := 27) dX2_readViolation_24 rfl rfl (fun c24 => absurd c24 (nI_ge (by omega) (by omega))) (fun _ => ?_)
          refine bs_aload_n (pc' := 28) dX2_readViolation_27 rfl rfl rfl ?_
          refine bs_getf (pc' := 31) kf_X2_15 dX2_readViolation_28 ce_e rfl rfl ?_
          refine bs_iload (pc' := 33) dX2_readViolation_31 rfl rfl ?_
          refine bs_ild (pc' := 34) dX2_readViolation_33 (ce_p hD) j rfl ⟨by omega, by decide⟩ rfl ?_
          refine bs_if_ne (tgt := 53) (pc' := 37) dX2_readViolation_34 rfl rfl (fun c34 => ?_) (fun c34 => ?_)
          · have e : gdb pm (fun j => acf ser (pr j) dp 0) false (f + 1) j = gdb pm (fun j => acf ser (pr j) dp 0) false f (j + 1) := by
              first | (rw [gdb, decide_eq_false c34]; rfl) | (rw [bI_0] at c48; rw [gdb, c48, Bool.and_false]; rfl)
            rw [e]
            refine bs_iinc (pc' := 56) (lv' := [(0, _), (1, _), (2, _), (3, _), (4, _)]) dX2_readViolation_53 rfl (nI_i1 j) rfl rfl rfl ?_
            refine bs_goto (tgt := 18) dX2_readViolation_56 rfl ?_
            exact ih (j + 1) (by omega)
          · refine bs_aload_n (pc' := 38) dX2_readViolation_37 rfl rfl rfl ?_
            refine bs_aload_n (pc' := 39) dX2_readViolation_38 rfl rfl rfl ?_
            refine bs_getf (pc' := 42) kf_X2_18 dX2_readViolation_39 ce_e rfl rfl ?_
            refine bs_iload (pc' := 44) dX2_readViolation_42 rfl rfl ?_
            refine bs_ild (pc' := 45) dX2_readViolation_44 (ce_q hD) j rfl ⟨by omega, by decide⟩ rfl ?_
            refine bs_callV (N := mX1_isActive) (pc' := 48) dX2_readViolation_45 km_X2_32 ko_X1_isActive (sc_isActive hK hdp) hK.1 rfl rfl rfl (by omega) (Nat.le_refl _) (Nat.le_refl _) rfl ?_
            rintro _ _ ⟨rfl, rfl⟩
            refine bs_if_eq (tgt := 53) (pc' := 51) dX2_readViolation_48 rfl rfl (fun c48 => ?_) (fun c48 => ?_)
            · have e : gdb pm (fun j => acf ser (pr j) dp 0) false (f + 1) j = gdb pm (fun j => acf ser (pr j) dp 0) false f (j + 1) := by
                first | (rw [gdb, decide_eq_false c34]; rfl) | (rw [bI_0] at c48; rw [gdb, c48, Bool.and_false]; rfl)
              rw [e]
              refine bs_iinc (pc' := 56) (lv' := [(0, _), (1, _), (2, _), (3, _), (4, _)]) dX2_readViolation_53 rfl (nI_i1 j) rfl rfl rfl ?_
              refine bs_goto (tgt := 18) dX2_readViolation_56 rfl ?_
              exact ih (j + 1) (by omega)
            · refine bs_iconst (v := 2) (pc' := 52) dX2_readViolation_51 (by decide) rfl ?_
              exact bs_iret dX2_readViolation_52 rfl ⟨by rw [bI_n0] at c48; rw [gdb, decide_eq_true c34, c48]; rfl, rfl⟩
      refine bs_istore_n (pc' := 6) (lv' := [(0, _), (1, _), (2, _), (3, _)]) dX2_readViolation_5 rfl rfl rfl ?_
      refine bs_iload_n (pc' := 7) dX2_readViolation_6 rfl rfl ?_
      refine bs_iconst (v := (-1)) (pc' := 8) dX2_readViolation_7 (by decide) rfl ?_
      refine bs_icmp_ne (tgt := 13) (pc' := 11) dX2_readViolation_8 rfl rfl (fun _ => ?_) (fun c8 => absurd c8 (nI_ne_m1 (k := g) (by omega)))
      refine bs_iload_n (pc' := 14) dX2_readViolation_13 rfl rfl ?_
      refine bs_iconst (v := 1) (pc' := 15) dX2_readViolation_14 (by decide) rfl ?_
      refine bs_iadd (pc' := 16) dX2_readViolation_15 rfl ?_
      refine bs_topi (nI (g + 1)) (nI_1 g) ?_
      refine bs_istore (pc' := 18) (lv' := [(0, _), (1, _), (2, _), (3, _), (4, _)]) dX2_readViolation_16 rfl rfl rfl ?_
      exact loop _ _ (by omega)
  refine bs_aload_n (pc' := 1) dX2_readViolation_0 rfl rfl rfl ?_
  refine bs_iload_n (pc' := 2) dX2_readViolation_1 rfl rfl ?_
  refine bs_callV (N := mX2_grantOfRead) (pc' := 5) dX2_readViolation_2 km_X2_29 ko_X2_grantOfRead (sc_grantOfRead hD hn) ce_e rfl rfl rfl (by omega) (Nat.le_refl _) (Nat.le_refl _) rfl ?_
  rintro _ _ ⟨rfl, rfl⟩
  exact j5
theorem sc_writeViolation {x : Int32} (hD : d4 e t p q) (hn : n ≤ 12) (hpm : pOK pm n) (hK : kAt G (cH G h e t p q tg pm pr n v) k s ser (nI dp) lat) (hdp : dp ≤ 5) : bs_Sp G mX2_writeViolation 2 0 0 [.ref e, .int x, .ref k] (cH G h e t p q tg pm pr n v) (cQ (cH G h e t p q tg pm pr n v) (wrV tg pm (fun j => acf ser (pr j) dp 0) x n)) := by
  unfold wrV
  refine bs_Sp.of (by decide) rfl ?_
  have j5 : bs_B G (fun _ => True) mX2_writeViolation 2 0 0 (cH G h e t p q tg pm pr n v) 5 [(0, .ref e), (1, .int x), (2, .ref k)] [.int (oI (grf tg pm x true n))] (cQ (cH G h e t p q tg pm pr n v) (match grf tg pm x true n with | none => 1 | some g => if gdb pm (fun j => acf ser (pr j) dp 0) true (n - abf pm n g) (abf pm n g) then 2 else 0)) := by
    cases hg : grf tg pm x true n with
    | none =>
      refine bs_iconst (v := (-1)) (pc' := 6) dX2_writeViolation_5 (by decide) rfl ?_
      refine bs_icmp_ne (tgt := 11) (pc' := 9) dX2_writeViolation_6 rfl rfl (fun c6 => absurd (show oI none = -1 from rfl) c6) (fun _ => ?_)
      refine bs_iconst (v := 1) (pc' := 10) dX2_writeViolation_9 (by decide) rfl ?_
      exact bs_iret dX2_writeViolation_10 rfl ⟨rfl, rfl⟩
    | some g =>
      have hgn := grf_lt hg
      have hab := abf_le (pm := pm) hgn
      have hk : kpt tg pm x n = abf pm n g := by rw [kpt, hg]
      refine bs_iconst (v := (-1)) (pc' := 6) dX2_writeViolation_5 (by decide) rfl ?_
      refine bs_icmp_ne (tgt := 11) (pc' := 9) dX2_writeViolation_6 rfl rfl (fun _ => ?_) (fun c6 => absurd c6 (nI_ne_m1 (k := g) (by omega)))
      refine bs_aload_n (pc' := 12) dX2_writeViolation_11 rfl rfl rfl ?_
      refine bs_aload_n (pc' := 13) dX2_writeViolation_12 rfl rfl rfl ?_
      refine bs_iload_n (pc' := 14) dX2_writeViolation_13 rfl rfl ?_
      refine bs_callV (N := mX2_keptByWrite) (pc' := 17) dX2_writeViolation_14 km_X2_38 ko_X2_keptByWrite (sc_keptByWrite hD hn hpm) ce_e rfl rfl rfl (by omega) (Nat.le_refl _) (Nat.le_refl _) rfl ?_
      rintro _ _ ⟨rfl, rfl⟩
      rw [hk]
      refine bs_aload_n (pc' := 18) dX2_writeViolation_17 rfl rfl rfl ?_
      refine bs_callV (N := mX2_hasProtectedFrom) (pc' := 21) dX2_writeViolation_18 km_X2_41 ko_X2_hasProtectedFrom (sc_hasProtectedFrom hD hn (by omega) hK hdp) ce_e rfl rfl rfl (by omega) (Nat.le_refl _) (Nat.le_refl _) rfl ?_
      rintro _ _ ⟨rfl, rfl⟩
      refine bs_if_eq (tgt := 28) (pc' := 24) dX2_writeViolation_21 rfl rfl (fun c21 => ?_) (fun c21 => ?_)
      · refine bs_iconst (v := 0) (pc' := 29) dX2_writeViolation_28 (by decide) rfl ?_
        exact bs_iret dX2_writeViolation_29 rfl ⟨by first | (rw [bI_0] at c21; dsimp only; rw [c21]; rfl) | (rw [bI_n0] at c21; dsimp only; rw [c21]; rfl), rfl⟩
      · refine bs_iconst (v := 2) (pc' := 25) dX2_writeViolation_24 (by decide) rfl ?_
        refine bs_goto (tgt := 29) dX2_writeViolation_25 rfl ?_
        exact bs_iret dX2_writeViolation_29 rfl ⟨by first | (rw [bI_0] at c21; dsimp only; rw [c21]; rfl) | (rw [bI_n0] at c21; dsimp only; rw [c21]; rfl), rfl⟩
  refine bs_aload_n (pc' := 1) dX2_writeViolation_0 rfl rfl rfl ?_
  refine bs_iload_n (pc' := 2) dX2_writeViolation_1 rfl rfl ?_
  refine bs_callV (N := mX2_grantOfWrite) (pc' := 5) dX2_writeViolation_2 km_X2_25 ko_X2_grantOfWrite (sc_grantOfWrite hD hn hpm) ce_e rfl rfl rfl (by omega) (Nat.le_refl _) (Nat.le_refl _) rfl ?_
  rintro _ _ ⟨rfl, rfl⟩
  exact j5
theorem sc_freeViolation {x : Int32} (hD : d4 e t p q) (hn : n ≤ 12) (hpm : pOK pm n) (hK : kAt G (cH G h e t p q tg pm pr n v) k s ser (nI dp) lat) (hdp : dp ≤ 5) : bs_Sp G mX2_freeViolation 2 0 0 [.ref e, .int x, .ref k] (cH G h e t p q tg pm pr n v) (cQ (cH G h e t p q tg pm pr n v) (frV tg pm (fun j => acf ser (pr j) dp 0) x n)) := by
  unfold frV
  refine bs_Sp.of (by decide) rfl ?_
  have j5 : bs_B G (fun _ => True) mX2_freeViolation 2 0 0 (cH G h e t p q tg pm pr n v) 5 [(0, .ref e), (1, .int x), (2, .ref k)] [.int (oI (grf tg pm x true n))] (cQ (cH G h e t p q tg pm pr n v) (match grf tg pm x true n with | none => 1 | some g => if gdb pm (fun j => acf ser (pr j) dp 0) true n 0 then 2 else 0)) := by
    cases hg : grf tg pm x true n with
    | none =>
      refine bs_iconst (v := (-1)) (pc' := 6) dX2_freeViolation_5 (by decide) rfl ?_
      refine bs_icmp_ne (tgt := 11) (pc' := 9) dX2_freeViolation_6 rfl rfl (fun c6 => absurd (show oI none = -1 from rfl) c6) (fun _ => ?_)
      refine bs_iconst (v := 1) (pc' := 10) dX2_freeViolation_9 (by decide) rfl ?_
      exact bs_iret dX2_freeViolation_10 rfl ⟨rfl, rfl⟩
    | some g =>
      have hgn := grf_lt hg
      refine bs_iconst (v := (-1)) (pc' := 6) dX2_freeViolation_5 (by decide) rfl ?_
      refine bs_icmp_ne (tgt := 11) (pc' := 9) dX2_freeViolation_6 rfl rfl (fun _ => ?_) (fun c6 => absurd c6 (nI_ne_m1 (k := g) (by omega)))
      refine bs_aload_n (pc' := 12) dX2_freeViolation_11 rfl rfl rfl ?_
      refine bs_iconst (v := 0) (pc' := 13) dX2_freeViolation_12 (by decide) rfl ?_
      refine bs_aload_n (pc' := 14) dX2_freeViolation_13 rfl rfl rfl ?_
      refine bs_callV (N := mX2_hasProtectedFrom) (pc' := 17) dX2_freeViolation_14 km_X2_41 ko_X2_hasProtectedFrom (sc_hasProtectedFrom (j0 := 0) hD hn (by omega) hK hdp) ce_e rfl rfl rfl (by omega) (Nat.le_refl _) (Nat.le_refl _) rfl ?_
      rintro _ _ ⟨rfl, rfl⟩
      refine bs_if_eq (tgt := 24) (pc' := 20) dX2_freeViolation_17 rfl rfl (fun c17 => ?_) (fun c17 => ?_)
      · refine bs_iconst (v := 0) (pc' := 25) dX2_freeViolation_24 (by decide) rfl ?_
        exact bs_iret dX2_freeViolation_25 rfl ⟨by first | (rw [bI_0, Nat.sub_zero] at c17; rw [c17]; rfl) | (rw [bI_n0, Nat.sub_zero] at c17; rw [c17]; rfl), rfl⟩
      · refine bs_iconst (v := 2) (pc' := 21) dX2_freeViolation_20 (by decide) rfl ?_
        refine bs_goto (tgt := 25) dX2_freeViolation_21 rfl ?_
        exact bs_iret dX2_freeViolation_25 rfl ⟨by first | (rw [bI_0, Nat.sub_zero] at c17; rw [c17]; rfl) | (rw [bI_n0, Nat.sub_zero] at c17; rw [c17]; rfl), rfl⟩
  refine bs_aload_n (pc' := 1) dX2_freeViolation_0 rfl rfl rfl ?_
  refine bs_iload_n (pc' := 2) dX2_freeViolation_1 rfl rfl ?_
  refine bs_callV (N := mX2_grantOfWrite) (pc' := 5) dX2_freeViolation_2 km_X2_25 ko_X2_grantOfWrite (sc_grantOfWrite hD hn hpm) ce_e rfl rfl rfl (by omega) (Nat.le_refl _) (Nat.le_refl _) rfl ?_
  rintro _ _ ⟨rfl, rfl⟩
  exact j5
def rbV (tg pm : Nat → Int32) (ac : Nat → Bool) (kd t : Int32) (n : Nat) : Int32 := if kd = 0 then wrV tg pm ac t n else if kd = 1 then rdV tg pm ac t n else raV tg pm t n
theorem sc_reborrowViolation {kd x : Int32} (hD : d4 e t p q) (hn : n ≤ 12) (hpm : pOK pm n) (hK : kAt G (cH G h e t p q tg pm pr n v) k s ser (nI dp) lat) (hdp : dp ≤ 5) : bs_Sp G mX2_reborrowViolation 3 0 0 [.ref e, .int kd, .int x, .ref k] (cH G h e t p q tg pm pr n v) (cQ (cH G h e t p q tg pm pr n v) (rbV tg pm (fun j => acf ser (pr j) dp 0) kd x n)) := by
  refine bs_Sp.of (by decide) rfl ?_
  have j28 : bs_B G (fun _ => True) mX2_reborrowViolation 3 0 0 (cH G h e t p q tg pm pr n v) 28 [(0, .ref e), (1, .int kd), (2, .int x), (3, .ref k)] [.int (oI (grf tg pm x true n))] (cQ (cH G h e t p q tg pm pr n v) (raV tg pm x n)) := by
    unfold raV
    cases hg : grf tg pm x true n with
    | none =>
      refine bs_iconst (v := (-1)) (pc' := 29) dX2_reborrowViolation_28 (by decide) rfl ?_
      refine bs_icmp_ne (tgt := 36) (pc' := 32) dX2_reborrowViolation_29 rfl rfl (fun c29 => absurd (show oI none = -1 from rfl) c29) (fun _ => ?_)
      refine bs_iconst (v := 1) (pc' := 33) dX2_reborrowViolation_32 (by decide) rfl ?_
      refine bs_goto (tgt := 37) dX2_reborrowViolation_33 rfl ?_
      exact bs_iret dX2_reborrowViolation_37 rfl ⟨rfl, rfl⟩
    | some g =>
      have hgn := grf_lt hg
      refine bs_iconst (v := (-1)) (pc' := 29) dX2_reborrowViolation_28 (by decide) rfl ?_
      refine bs_icmp_ne (tgt := 36) (pc' := 32) dX2_reborrowViolation_29 rfl rfl (fun _ => ?_) (fun c29 => absurd c29 (nI_ne_m1 (k := g) (by omega)))
      refine bs_iconst (v := 0) (pc' := 37) dX2_reborrowViolation_36 (by decide) rfl ?_
      exact bs_iret dX2_reborrowViolation_37 rfl ⟨rfl, rfl⟩
  refine bs_iload_n (pc' := 1) dX2_reborrowViolation_0 rfl rfl ?_
  refine bs_if_ne (tgt := 11) (pc' := 4) dX2_reborrowViolation_1 rfl rfl (fun c1 => ?_) (fun c1 => ?_)
  · refine bs_iload_n (pc' := 12) dX2_reborrowViolation_11 rfl rfl ?_
    refine bs_iconst (v := 1) (pc' := 13) dX2_reborrowViolation_12 (by decide) rfl ?_
    refine bs_icmp_ne (tgt := 23) (pc' := 16) dX2_reborrowViolation_13 rfl rfl (fun c13 => ?_) (fun c13 => ?_)
    · refine bs_aload_n (pc' := 24) dX2_reborrowViolation_23 rfl rfl rfl ?_
      refine bs_iload_n (pc' := 25) dX2_reborrowViolation_24 rfl rfl ?_
      refine bs_callV (N := mX2_grantOfWrite) (pc' := 28) dX2_reborrowViolation_25 km_X2_25 ko_X2_grantOfWrite (sc_grantOfWrite hD hn hpm) ce_e rfl rfl rfl (by omega) (Nat.le_refl _) (Nat.le_refl _) rfl ?_
      rintro _ _ ⟨rfl, rfl⟩
      rw [rbV, if_neg c1, if_neg c13]
      exact j28
    · refine bs_aload_n (pc' := 17) dX2_reborrowViolation_16 rfl rfl rfl ?_
      refine bs_iload_n (pc' := 18) dX2_reborrowViolation_17 rfl rfl ?_
      refine bs_aload_n (pc' := 19) dX2_reborrowViolation_18 rfl rfl rfl ?_
      refine bs_callV (N := mX2_readViolation) (pc' := 22) dX2_reborrowViolation_19 km_X2_49 ko_X2_readViolation (sc_readViolation hD hn hK hdp) ce_e rfl rfl rfl (by omega) (Nat.le_refl _) (Nat.le_refl _) rfl ?_
      rintro _ _ ⟨rfl, rfl⟩
      exact bs_iret dX2_reborrowViolation_22 rfl ⟨by rw [rbV, if_neg c1, if_pos c13], rfl⟩
  · refine bs_aload_n (pc' := 5) dX2_reborrowViolation_4 rfl rfl rfl ?_
    refine bs_iload_n (pc' := 6) dX2_reborrowViolation_5 rfl rfl ?_
    refine bs_aload_n (pc' := 7) dX2_reborrowViolation_6 rfl rfl rfl ?_
    refine bs_callV (N := mX2_writeViolation) (pc' := 10) dX2_reborrowViolation_7 km_X2_45 ko_X2_writeViolation (sc_writeViolation hD hn hpm hK hdp) ce_e rfl rfl rfl (by omega) (Nat.le_refl _) (Nat.le_refl _) rfl ?_
    rintro _ _ ⟨rfl, rfl⟩
    exact bs_iret dX2_reborrowViolation_10 rfl ⟨by rw [rbV, if_pos c1], rfl⟩
theorem sc_hasRoomToReborrow {kd x : Int32} (hD : d4 e t p q) (hn : n ≤ 12) (hpm : pOK pm n) : bs_Sp G mX2_hasRoomToReborrow 2 0 0 [.ref e, .int kd, .int x] (cH G h e t p q tg pm pr n v) (cQ (cH G h e t p q tg pm pr n v) (bI (decide ((if kd = 0 then kpt tg pm x n else n) < 12)))) := by
  have hk : kpt tg pm x n ≤ 12 := by
    unfold kpt
    split
    · exact hn
    · next g hg => exact Nat.le_trans (abf_le (grf_lt hg)).2 hn
  refine bs_Sp.of (by decide) rfl ?_
  have j16 : ∀ m, m ≤ 12 → m = (if kd = 0 then kpt tg pm x n else n) → bs_B G (fun _ => True) mX2_hasRoomToReborrow 2 0 0 (cH G h e t p q tg pm pr n v) 16 [(0, .ref e), (1, .int kd), (2, .int x)] [.int (nI m)] (cQ (cH G h e t p q tg pm pr n v) (bI (decide ((if kd = 0 then kpt tg pm x n else n) < 12)))) := by
    intro m hm em
    rw [← em]
    refine bs_istore_n (pc' := 17) (lv' := [(0, _), (1, _), (2, _), (3, _)]) dX2_hasRoomToReborrow_16 rfl rfl rfl ?_
    refine bs_iload_n (pc' := 18) dX2_hasRoomToReborrow_17 rfl rfl ?_
    refine bs_bipush (v := 12) (pc' := 20) dX2_hasRoomToReborrow_18 (by decide) rfl ?_
    refine bs_icmp_ge (tgt := 27) (pc' := 23) dX2_hasRoomToReborrow_20 rfl rfl (fun c20 => ?_) (fun c20 => ?_)
    · refine bs_iconst (v := 0) (pc' := 28) dX2_hasRoomToReborrow_27 (by decide) rfl ?_
      exact bs_zret dX2_hasRoomToReborrow_28 rfl (by decide) ⟨by rw [show (12 : Int32) = nI 12 from rfl, nI_leI (by decide) (by omega)] at c20; first | (rw [decide_eq_false (by omega)]; rfl) | (rw [decide_eq_true (by omega)]; rfl), rfl⟩
    · refine bs_iconst (v := 1) (pc' := 24) dX2_hasRoomToReborrow_23 (by decide) rfl ?_
      refine bs_goto (tgt := 28) dX2_hasRoomToReborrow_24 rfl ?_
      exact bs_zret dX2_hasRoomToReborrow_28 rfl (by decide) ⟨by rw [show (12 : Int32) = nI 12 from rfl, nI_leI (by decide) (by omega)] at c20; first | (rw [decide_eq_false (by omega)]; rfl) | (rw [decide_eq_true (by omega)]; rfl), rfl⟩
  refine bs_iload_n (pc' := 1) dX2_hasRoomToReborrow_0 rfl rfl ?_
  refine bs_if_ne (tgt := 12) (pc' := 4) dX2_hasRoomToReborrow_1 rfl rfl (fun c1 => ?_) (fun c1 => ?_)
  · refine bs_aload_n (pc' := 13) dX2_hasRoomToReborrow_12 rfl rfl rfl ?_
    refine bs_getf (pc' := 16) kf_X2_21 dX2_hasRoomToReborrow_13 ce_e rfl rfl ?_
    first | exact j16 _ hk (by rw [if_pos c1]) | exact j16 _ hn (by rw [if_neg c1])
  · refine bs_aload_n (pc' := 5) dX2_hasRoomToReborrow_4 rfl rfl rfl ?_
    refine bs_iload_n (pc' := 6) dX2_hasRoomToReborrow_5 rfl rfl ?_
    refine bs_callV (N := mX2_keptByWrite) (pc' := 9) dX2_hasRoomToReborrow_6 km_X2_38 ko_X2_keptByWrite (sc_keptByWrite hD hn hpm) ce_e rfl rfl rfl (by omega) (Nat.le_refl _) (Nat.le_refl _) rfl ?_
    rintro _ _ ⟨rfl, rfl⟩
    refine bs_goto (tgt := 16) dX2_hasRoomToReborrow_9 rfl ?_
    first | exact j16 _ hk (by rw [if_pos c1]) | exact j16 _ hn (by rw [if_neg c1])
theorem sc_applyRead {x : Int32} (hD : d4 e t p q) (hn : n ≤ 12) : bs_Sp G mX2_applyRead 1 0 0 [.ref e, .int x] (cH G h e t p q tg pm pr n v) (fun r h' => r = none ∧ h' = cH G h e t p q tg (rdP tg pm x n) pr n v) := by
  unfold rdP
  refine bs_Sp.of (by decide) rfl ?_
  have j5 : bs_B G (fun _ => True) mX2_applyRead 1 0 0 (cH G h e t p q tg pm pr n v) 5 [(0, .ref e), (1, .int x)] [.int (oI (grf tg pm x false n))] (fun r h' => r = none ∧ h' = cH G h e t p q tg (match grf tg pm x false n with | none => pm | some g => dsf pm (g + 1) n) pr n v) := by
    cases hg : grf tg pm x false n with
    | none =>
      refine bs_istore_n (pc' := 6) (lv' := [(0, _), (1, _), (2, _)]) dX2_applyRead_5 rfl rfl rfl ?_
      refine bs_iload_n (pc' := 7) dX2_applyRead_6 rfl rfl ?_
      refine bs_iconst (v := (-1)) (pc' := 8) dX2_applyRead_7 (by decide) rfl ?_
      refine bs_icmp_ne (tgt := 12) (pc' := 11) dX2_applyRead_8 rfl rfl (fun c8 => absurd (show oI none = -1 from rfl) c8) (fun _ => ?_)
      exact bs_vret dX2_applyRead_11 rfl ⟨rfl, rfl⟩
    | some g =>
      have hgn := grf_lt hg
      have loop : ∀ f j, j + f = n → g + 1 ≤ j → bs_B G (fun _ => True) mX2_applyRead 1 0 0 (cH G h e t p q tg (dsf pm (g + 1) j) pr n v) 16 [(0, .ref e), (1, .int x), (2, .int (nI g)), (3, .int (nI j))] [] (fun r h' => r = none ∧ h' = cH G h e t p q tg (dsf pm (g + 1) n) pr n v) := by
        intro f
        induction f with
        | zero =>
          intro j hj hgj
          have hj' : j = n := by omega
          subst hj'
          refine bs_iload_n (pc' := 17) dX2_applyRead_16 rfl rfl ?_
          refine bs_aload_n (pc' := 18) dX2_applyRead_17 rfl rfl rfl ?_
          refine bs_getf (pc' := 21) kf_X2_21 dX2_applyRead_18 ce_e rfl rfl ?_
          refine bs_icmp_ge (tgt := 46) (pc' := 24) dX2_applyRead_21 rfl rfl (fun _ => ?_) (fun c21 => absurd (nI_le (by omega) (by omega)) c21)
          exact bs_vret dX2_applyRead_46 rfl ⟨rfl, rfl⟩
        | succ f ih =>
          intro j hj hgj
          have e6 : dsf pm (g + 1) j j = pm j := dsf_at (Nat.le_refl _)
          refine bs_iload_n (pc' := 17) dX2_applyRead_16 rfl rfl ?_
          refine bs_aload_n (pc' := 18) dX2_applyRead_17 rfl rfl rfl ?_
          refine bs_getf (pc' := 21) kf_X2_21 dX2_applyRead_18 ce_e rfl rfl ?_
          refine bs_icmp_ge (tgt := 46) (pc' := 24) dX2_applyRead_21 rfl rfl (fun c21 => absurd c21 (nI_ge (by omega) (by omega))) (fun _ => ?_)
          refine bs_aload_n (pc' := 25) dX2_applyRead_24 rfl rfl rfl ?_
          refine bs_getf (pc' := 28) kf_X2_15 dX2_applyRead_25 ce_e rfl rfl ?_
          refine bs_iload_n (pc' := 29) dX2_applyRead_28 rfl rfl ?_
          refine bs_ild (pc' := 30) dX2_applyRead_29 (ce_p hD) j rfl ⟨by omega, by decide⟩ rfl ?_
          refine bs_if_ne (tgt := 40) (pc' := 33) dX2_applyRead_30 rfl rfl (fun c30 => ?_) (fun c30 => ?_)
          · rw [e6] at c30
            first | rw [dsf_no c30] | rw [dsf_y hgj c30]
            refine bs_iinc (pc' := 43) (lv' := [(0, _), (1, _), (2, _), (3, _)]) dX2_applyRead_40 rfl (nI_i1 j) rfl rfl rfl ?_
            refine bs_goto (tgt := 16) dX2_applyRead_43 rfl ?_
            exact ih (j + 1) (by omega) (by omega)
          · refine bs_aload_n (pc' := 34) dX2_applyRead_33 rfl rfl rfl ?_
            refine bs_getf (pc' := 37) kf_X2_15 dX2_applyRead_34 ce_e rfl rfl ?_
            refine bs_iload_n (pc' := 38) dX2_applyRead_37 rfl rfl ?_
            refine bs_iconst (v := 3) (pc' := 39) dX2_applyRead_38 (by decide) rfl ?_
            refine ce_st1 (pc' := 40) dX2_applyRead_39 hD j rfl (by omega) rfl ?_
            rw [e6] at c30
            first | rw [dsf_no c30] | rw [dsf_y hgj c30]
            refine bs_iinc (pc' := 43) (lv' := [(0, _), (1, _), (2, _), (3, _)]) dX2_applyRead_40 rfl (nI_i1 j) rfl rfl rfl ?_
            refine bs_goto (tgt := 16) dX2_applyRead_43 rfl ?_
            exact ih (j + 1) (by omega) (by omega)
      refine bs_istore_n (pc' := 6) (lv' := [(0, _), (1, _), (2, _)]) dX2_applyRead_5 rfl rfl rfl ?_
      refine bs_iload_n (pc' := 7) dX2_applyRead_6 rfl rfl ?_
      refine bs_iconst (v := (-1)) (pc' := 8) dX2_applyRead_7 (by decide) rfl ?_
      refine bs_icmp_ne (tgt := 12) (pc' := 11) dX2_applyRead_8 rfl rfl (fun _ => ?_) (fun c8 => absurd c8 (nI_ne_m1 (k := g) (by omega)))
      refine bs_iload_n (pc' := 13) dX2_applyRead_12 rfl rfl ?_
      refine bs_iconst (v := 1) (pc' := 14) dX2_applyRead_13 (by decide) rfl ?_
      refine bs_iadd (pc' := 15) dX2_applyRead_14 rfl ?_
      refine bs_topi (nI (g + 1)) (nI_1 g) ?_
      refine bs_istore_n (pc' := 16) (lv' := [(0, _), (1, _), (2, _), (3, _)]) dX2_applyRead_15 rfl rfl rfl ?_
      have l := loop (n - (g + 1)) (g + 1) (by omega) (Nat.le_refl _)
      rw [dsf_0] at l
      exact l
  refine bs_aload_n (pc' := 1) dX2_applyRead_0 rfl rfl rfl ?_
  refine bs_iload_n (pc' := 2) dX2_applyRead_1 rfl rfl ?_
  refine bs_callV (N := mX2_grantOfRead) (pc' := 5) dX2_applyRead_2 km_X2_29 ko_X2_grantOfRead (sc_grantOfRead hD hn) ce_e rfl rfl rfl (by omega) (Nat.le_refl _) (Nat.le_refl _) rfl ?_
  rintro _ _ ⟨rfl, rfl⟩
  exact j5
theorem sc_applyWrite {x : Int32} (hD : d4 e t p q) (hn : n ≤ 12) (hpm : pOK pm n) : bs_Sp G mX2_applyWrite 2 0 0 [.ref e, .int x] (cH G h e t p q tg pm pr n v) (fun r h' => r = none ∧ h' = cH G h e t p q tg pm pr (kpt tg pm x n) v) := by
  refine bs_Sp.of (by decide) rfl ?_
  refine bs_aload_n (pc' := 1) dX2_applyWrite_0 rfl rfl rfl ?_
  refine bs_aload_n (pc' := 2) dX2_applyWrite_1 rfl rfl rfl ?_
  refine bs_iload_n (pc' := 3) dX2_applyWrite_2 rfl rfl ?_
  refine bs_callV (N := mX2_keptByWrite) (pc' := 6) dX2_applyWrite_3 km_X2_38 ko_X2_keptByWrite (sc_keptByWrite hD hn hpm) ce_e rfl rfl rfl (by omega) (Nat.le_refl _) (Nat.le_refl _) rfl ?_
  rintro _ _ ⟨rfl, rfl⟩
  refine ce_pt3 (pc' := 9) kf_X2_21 dX2_applyWrite_6 rfl ?_
  exact bs_vret dX2_applyWrite_9 rfl ⟨rfl, rfl⟩
theorem sc_insertItem {i : Nat} {x pe pt : Int32} (hD : d4 e t p q) (hn : n < 12) (hi : i ≤ n) : bs_Sp G mX2_insertItem 0 0 0 [.ref e, .int (nI i), .int x, .int pe, .int pt] (cH G h e t p q tg pm pr n v) (fun r h' => r = none ∧ h' = cH G h e t p q (isf tg i n x) (isf pm i n pe) (isf pr i n pt) (n + 1) v) := by
  refine bs_Sp.of (by decide) rfl ?_
  have loop : ∀ f j, j = i + f → j ≤ n → bs_B G (fun _ => True) mX2_insertItem 0 0 0 (cH G h e t p q (shf tg j n) (shf pm j n) (shf pr j n) n v) 28 [(0, .ref e), (1, .int (nI i)), (2, .int x), (3, .int pe), (4, .int pt), (5, .int (nI j))] [] (fun r h' => r = none ∧ h' = cH G h e t p q (isf tg i n x) (isf pm i n pe) (isf pr i n pt) (n + 1) v) := by
    intro f
    induction f with
    | zero =>
      intro j hj hjn
      have hj' : j = i := by omega
      subst hj'
      refine bs_iload (pc' := 30) dX2_insertItem_28 rfl rfl ?_
      refine bs_iload_n (pc' := 31) dX2_insertItem_30 rfl rfl ?_
      refine bs_icmp_le (tgt := 88) (pc' := 34) dX2_insertItem_31 rfl rfl (fun _ => ?_) (fun c31 => absurd (nI_le (Nat.le_refl _) (by omega)) c31)
      refine bs_aload_n (pc' := 89) dX2_insertItem_88 rfl rfl rfl ?_
      refine bs_getf (pc' := 92) kf_X2_9 dX2_insertItem_89 ce_e rfl rfl ?_
      refine bs_iload_n (pc' := 93) dX2_insertItem_92 rfl rfl ?_
      refine bs_iload_n (pc' := 94) dX2_insertItem_93 rfl rfl ?_
      refine ce_st0 (pc' := 95) dX2_insertItem_94 hD j rfl (by omega) rfl ?_
      refine bs_aload_n (pc' := 96) dX2_insertItem_95 rfl rfl rfl ?_
      refine bs_getf (pc' := 99) kf_X2_15 dX2_insertItem_96 ce_e rfl rfl ?_
      refine bs_iload_n (pc' := 100) dX2_insertItem_99 rfl rfl ?_
      refine bs_iload_n (pc' := 101) dX2_insertItem_100 rfl rfl ?_
      refine ce_st1 (pc' := 102) dX2_insertItem_101 hD j rfl (by omega) rfl ?_
      refine bs_aload_n (pc' := 103) dX2_insertItem_102 rfl rfl rfl ?_
      refine bs_getf (pc' := 106) kf_X2_18 dX2_insertItem_103 ce_e rfl rfl ?_
      refine bs_iload_n (pc' := 107) dX2_insertItem_106 rfl rfl ?_
      refine bs_iload (pc' := 109) dX2_insertItem_107 rfl rfl ?_
      refine ce_st2 (pc' := 110) dX2_insertItem_109 hD j rfl (by omega) rfl ?_
      refine bs_aload_n (pc' := 111) dX2_insertItem_110 rfl rfl rfl ?_
      refine bs_dup (pc' := 112) dX2_insertItem_111 rfl rfl ?_
      refine bs_getf (pc' := 115) kf_X2_21 dX2_insertItem_112 ce_e rfl rfl ?_
      refine bs_iconst (v := 1) (pc' := 116) dX2_insertItem_115 (by decide) rfl ?_
      refine bs_iadd (pc' := 117) dX2_insertItem_116 rfl ?_
      refine bs_topi (nI (n + 1)) (nI_1 n) ?_
      refine ce_pt3 (pc' := 120) kf_X2_21 dX2_insertItem_117 rfl ?_
      exact bs_vret dX2_insertItem_120 rfl ⟨rfl, rfl⟩
    | succ f ih =>
      intro j hj hjn
      obtain ⟨j', rfl⟩ : ∃ j', j = j' + 1 := ⟨j - 1, by omega⟩
      have ei : nI (j' + 1) - 1 = nI j' := nI_pred j'
      have es : ∀ g : Nat → Int32, upd (shf g (j' + 1) n) (j' + 1) (shf g (j' + 1) n j') = shf g j' n := fun g => by
        rw [shf_lo (by omega)]
        exact shf_s (by omega)
      refine bs_iload (pc' := 30) dX2_insertItem_28 rfl rfl ?_
      refine bs_iload_n (pc' := 31) dX2_insertItem_30 rfl rfl ?_
      refine bs_icmp_le (tgt := 88) (pc' := 34) dX2_insertItem_31 rfl rfl (fun c31 => absurd c31 (nI_ge (by omega) (by omega))) (fun _ => ?_)
      refine bs_aload_n (pc' := 35) dX2_insertItem_34 rfl rfl rfl ?_
      refine bs_getf (pc' := 38) kf_X2_9 dX2_insertItem_35 ce_e rfl rfl ?_
      refine bs_iload (pc' := 40) dX2_insertItem_38 rfl rfl ?_
      refine bs_aload_n (pc' := 41) dX2_insertItem_40 rfl rfl rfl ?_
      refine bs_getf (pc' := 44) kf_X2_9 dX2_insertItem_41 ce_e rfl rfl ?_
      refine bs_iload (pc' := 46) dX2_insertItem_44 rfl rfl ?_
      refine bs_iconst (v := 1) (pc' := 47) dX2_insertItem_46 (by decide) rfl ?_
      refine bs_isub (pc' := 48) dX2_insertItem_47 rfl ?_
      refine bs_ild (pc' := 49) dX2_insertItem_48 (ce_t hD) j' ei ⟨by omega, by decide⟩ rfl ?_
      refine ce_st0 (pc' := 50) dX2_insertItem_49 hD (j' + 1) rfl (by omega) rfl ?_
      refine bs_aload_n (pc' := 51) dX2_insertItem_50 rfl rfl rfl ?_
      refine bs_getf (pc' := 54) kf_X2_15 dX2_insertItem_51 ce_e rfl rfl ?_
      refine bs_iload (pc' := 56) dX2_insertItem_54 rfl rfl ?_
      refine bs_aload_n (pc' := 57) dX2_insertItem_56 rfl rfl rfl ?_
      refine bs_getf (pc' := 60) kf_X2_15 dX2_insertItem_57 ce_e rfl rfl ?_
      refine bs_iload (pc' := 62) dX2_insertItem_60 rfl rfl ?_
      refine bs_iconst (v := 1) (pc' := 63) dX2_insertItem_62 (by decide) rfl ?_
      refine bs_isub (pc' := 64) dX2_insertItem_63 rfl ?_
      refine bs_ild (pc' := 65) dX2_insertItem_64 (ce_p hD) j' ei ⟨by omega, by decide⟩ rfl ?_
      refine ce_st1 (pc' := 66) dX2_insertItem_65 hD (j' + 1) rfl (by omega) rfl ?_
      refine bs_aload_n (pc' := 67) dX2_insertItem_66 rfl rfl rfl ?_
      refine bs_getf (pc' := 70) kf_X2_18 dX2_insertItem_67 ce_e rfl rfl ?_
      refine bs_iload (pc' := 72) dX2_insertItem_70 rfl rfl ?_
      refine bs_aload_n (pc' := 73) dX2_insertItem_72 rfl rfl rfl ?_
      refine bs_getf (pc' := 76) kf_X2_18 dX2_insertItem_73 ce_e rfl rfl ?_
      refine bs_iload (pc' := 78) dX2_insertItem_76 rfl rfl ?_
      refine bs_iconst (v := 1) (pc' := 79) dX2_insertItem_78 (by decide) rfl ?_
      refine bs_isub (pc' := 80) dX2_insertItem_79 rfl ?_
      refine bs_ild (pc' := 81) dX2_insertItem_80 (ce_q hD) j' ei ⟨by omega, by decide⟩ rfl ?_
      refine ce_st2 (pc' := 82) dX2_insertItem_81 hD (j' + 1) rfl (by omega) rfl ?_
      rw [es, es, es]
      refine bs_iinc (pc' := 85) (lv' := [(0, _), (1, _), (2, _), (3, _), (4, _), (5, _)]) dX2_insertItem_82 rfl ((nI_m1 _).trans ei) rfl rfl rfl ?_
      refine bs_goto (tgt := 28) dX2_insertItem_85 rfl ?_
      exact ih j' (by omega) (by omega)
  refine bs_iload_n (pc' := 1) dX2_insertItem_0 rfl rfl ?_
  refine bs_if_lt (tgt := 21) (pc' := 4) dX2_insertItem_1 rfl rfl (fun c1 => absurd c1 (nI_pos (by omega))) (fun _ => ?_)
  refine bs_iload_n (pc' := 5) dX2_insertItem_4 rfl rfl ?_
  refine bs_aload_n (pc' := 6) dX2_insertItem_5 rfl rfl rfl ?_
  refine bs_getf (pc' := 9) kf_X2_21 dX2_insertItem_6 ce_e rfl rfl ?_
  refine bs_icmp_gt (tgt := 21) (pc' := 12) dX2_insertItem_9 rfl rfl (fun c9 => absurd c9 (nI_nlt (by omega) (by omega))) (fun _ => ?_)
  refine bs_aload_n (pc' := 13) dX2_insertItem_12 rfl rfl rfl ?_
  refine bs_getf (pc' := 16) kf_X2_21 dX2_insertItem_13 ce_e rfl rfl ?_
  refine bs_bipush (v := 12) (pc' := 18) dX2_insertItem_16 (by decide) rfl ?_
  refine bs_icmp_lt (tgt := 22) (pc' := 21) dX2_insertItem_18 rfl rfl (fun _ => ?_) (fun c18 => absurd (by exact nI_lt (b := 12) (by omega) (by decide)) c18)
  refine bs_aload_n (pc' := 23) dX2_insertItem_22 rfl rfl rfl ?_
  refine bs_getf (pc' := 26) kf_X2_21 dX2_insertItem_23 ce_e rfl rfl ?_
  refine bs_istore (pc' := 28) (lv' := [(0, _), (1, _), (2, _), (3, _), (4, _), (5, _)]) dX2_insertItem_26 rfl rfl rfl ?_
  have l := loop (n - i) n (by omega) (Nat.le_refl _)
  rw [shf_0, shf_0, shf_0] at l
  exact l
/-- what a reborrow makes of a stack: kept items, permissions, place and permission of the new one -/
def rbN (tg pm : Nat → Int32) (kd t : Int32) (n : Nat) : Nat := if kd = 0 then kpt tg pm t n else n
def rbP (tg pm : Nat → Int32) (kd t : Int32) (n : Nat) : Nat → Int32 := if kd = 1 then rdP tg pm t n else pm
def rbI (tg pm : Nat → Int32) (kd t : Int32) (n : Nat) : Nat := if kd = 1 then n else kpt tg pm t n
def rbQ (kd : Int32) : Int32 := if kd = 0 then 0 else if kd = 1 then 2 else 1
theorem sc_applyReborrow {kd x nt pt : Int32} (hD : d4 e t p q) (hn : n ≤ 12) (hpm : pOK pm n) (hr : rbN tg pm kd x n < 12) : bs_Sp G mX2_applyReborrow 3 0 0 [.ref e, .int kd, .int x, .int nt, .int pt] (cH G h e t p q tg pm pr n v) (fun r h' => r = none ∧ h' = cH G h e t p q (isf tg (rbI tg pm kd x n) (rbN tg pm kd x n) nt) (isf (rbP tg pm kd x n) (rbI tg pm kd x n) (rbN tg pm kd x n) (rbQ kd)) (isf pr (rbI tg pm kd x n) (rbN tg pm kd x n) pt) (rbN tg pm kd x n + 1) v) := by
  have hk : kpt tg pm x n ≤ n := by
    unfold kpt
    split
    · exact Nat.le_refl _
    · next g hg => exact (abf_le (grf_lt hg)).2
  refine bs_Sp.of (by decide) rfl ?_
  refine bs_iload_n (pc' := 1) dX2_applyReborrow_0 rfl rfl ?_
  refine bs_if_ne (tgt := 24) (pc' := 4) dX2_applyReborrow_1 rfl rfl (fun c1 => ?_) (fun c1 => ?_)
  · refine bs_iload_n (pc' := 25) dX2_applyReborrow_24 rfl rfl ?_
    refine bs_iconst (v := 1) (pc' := 26) dX2_applyReborrow_25 (by decide) rfl ?_
    refine bs_icmp_ne (tgt := 49) (pc' := 29) dX2_applyReborrow_26 rfl rfl (fun c26 => ?_) (fun c26 => ?_)
    · have e1 : rbN tg pm kd x n = n := by rw [rbN, if_neg c1]
      have e2 : rbP tg pm kd x n = pm := by rw [rbP, if_neg c26]
      have e3 : rbI tg pm kd x n = kpt tg pm x n := by rw [rbI, if_neg c26]
      have e4 : rbQ kd = 1 := by rw [rbQ, if_neg c1, if_neg c26]
      rw [e1] at hr
      rw [e1, e2, e3, e4]
      refine bs_aload_n (pc' := 50) dX2_applyReborrow_49 rfl rfl rfl ?_
      refine bs_aload_n (pc' := 51) dX2_applyReborrow_50 rfl rfl rfl ?_
      refine bs_iload_n (pc' := 52) dX2_applyReborrow_51 rfl rfl ?_
      refine bs_callV (N := mX2_keptByWrite) (pc' := 55) dX2_applyReborrow_52 km_X2_38 ko_X2_keptByWrite (sc_keptByWrite hD hn hpm) ce_e rfl rfl rfl (by omega) (Nat.le_refl _) (Nat.le_refl _) rfl ?_
      rintro _ _ ⟨rfl, rfl⟩
      refine bs_iload_n (pc' := 56) dX2_applyReborrow_55 rfl rfl ?_
      refine bs_iconst (v := 1) (pc' := 57) dX2_applyReborrow_56 (by decide) rfl ?_
      refine bs_iload (pc' := 59) dX2_applyReborrow_57 rfl rfl ?_
      refine bs_callV (N := mX2_insertItem) (pc' := 62) dX2_applyReborrow_59 km_X2_56 ko_X2_insertItem (sc_insertItem hD hr hk) ce_e rfl rfl rfl (by omega) (Nat.le_refl _) (Nat.le_refl _) rfl ?_
      rintro _ _ ⟨rfl, rfl⟩
      exact bs_vret dX2_applyReborrow_62 rfl ⟨rfl, rfl⟩
    · have e1 : rbN tg pm kd x n = n := by rw [rbN, if_neg c1]
      have e2 : rbP tg pm kd x n = rdP tg pm x n := by rw [rbP, if_pos c26]
      have e3 : rbI tg pm kd x n = n := by rw [rbI, if_pos c26]
      have e4 : rbQ kd = 2 := by rw [rbQ, if_neg c1, if_pos c26]
      rw [e1] at hr
      rw [e1, e2, e3, e4]
      refine bs_aload_n (pc' := 30) dX2_applyReborrow_29 rfl rfl rfl ?_
      refine bs_iload_n (pc' := 31) dX2_applyReborrow_30 rfl rfl ?_
      refine bs_callV (N := mX2_applyRead) (pc' := 34) dX2_applyReborrow_31 km_X2_60 ko_X2_applyRead (sc_applyRead hD hn) ce_e rfl rfl rfl (by omega) (Nat.le_refl _) (Nat.le_refl _) rfl ?_
      rintro _ _ ⟨rfl, rfl⟩
      refine bs_aload_n (pc' := 35) dX2_applyReborrow_34 rfl rfl rfl ?_
      refine bs_aload_n (pc' := 36) dX2_applyReborrow_35 rfl rfl rfl ?_
      refine bs_getf (pc' := 39) kf_X2_21 dX2_applyReborrow_36 ce_e rfl rfl ?_
      refine bs_iload_n (pc' := 40) dX2_applyReborrow_39 rfl rfl ?_
      refine bs_iconst (v := 2) (pc' := 41) dX2_applyReborrow_40 (by decide) rfl ?_
      refine bs_iload (pc' := 43) dX2_applyReborrow_41 rfl rfl ?_
      refine bs_callV (N := mX2_insertItem) (pc' := 46) dX2_applyReborrow_43 km_X2_56 ko_X2_insertItem (sc_insertItem hD hr (Nat.le_refl _)) ce_e rfl rfl rfl (by omega) (Nat.le_refl _) (Nat.le_refl _) rfl ?_
      rintro _ _ ⟨rfl, rfl⟩
      refine bs_goto (tgt := 62) dX2_applyReborrow_46 rfl ?_
      exact bs_vret dX2_applyReborrow_62 rfl ⟨rfl, rfl⟩
  · have e1 : rbN tg pm kd x n = kpt tg pm x n := by rw [rbN, if_pos c1]
    have hk1 : ¬ kd = 1 := by rw [c1]; decide
    have e2 : rbP tg pm kd x n = pm := by rw [rbP, if_neg hk1]
    have e3 : rbI tg pm kd x n = kpt tg pm x n := by rw [rbI, if_neg hk1]
    have e4 : rbQ kd = 0 := by rw [rbQ, if_pos c1]
    rw [e1] at hr
    rw [e1, e2, e3, e4]
    refine bs_aload_n (pc' := 5) dX2_applyReborrow_4 rfl rfl rfl ?_
    refine bs_iload_n (pc' := 6) dX2_applyReborrow_5 rfl rfl ?_
    refine bs_callV (N := mX2_applyWrite) (pc' := 9) dX2_applyReborrow_6 km_X2_52 ko_X2_applyWrite (sc_applyWrite hD hn hpm) ce_e rfl rfl rfl (by omega) (Nat.le_refl _) (Nat.le_refl _) rfl ?_
    rintro _ _ ⟨rfl, rfl⟩
    refine bs_aload_n (pc' := 10) dX2_applyReborrow_9 rfl rfl rfl ?_
    refine bs_aload_n (pc' := 11) dX2_applyReborrow_10 rfl rfl rfl ?_
    refine bs_getf (pc' := 14) kf_X2_21 dX2_applyReborrow_11 ce_e rfl rfl ?_
    refine bs_iload_n (pc' := 15) dX2_applyReborrow_14 rfl rfl ?_
    refine bs_iconst (v := 0) (pc' := 16) dX2_applyReborrow_15 (by decide) rfl ?_
    refine bs_iload (pc' := 18) dX2_applyReborrow_16 rfl rfl ?_
    refine bs_callV (N := mX2_insertItem) (pc' := 21) dX2_applyReborrow_18 km_X2_56 ko_X2_insertItem (sc_insertItem hD hr (Nat.le_refl _)) ce_e rfl rfl rfl (by omega) (Nat.le_refl _) (Nat.le_refl _) rfl ?_
    rintro _ _ ⟨rfl, rfl⟩
    refine bs_goto (tgt := 62) dX2_applyReborrow_21 rfl ?_
    exact bs_vret dX2_applyReborrow_62 rfl ⟨rfl, rfl⟩
theorem sc_mixed {h : Hp} {a b : Int64} : bs_Sp G mX5_mixed 0 0 0 [.long a, .long b] h (fun r h' => r = some (.long (mx a b)) ∧ h' = h) := by
  refine bs_Sp.of (by decide) rfl ?_
  refine bs_ldc2 (pc' := 3) kj_X5_256 dX5_mixed_0 rfl ?_
  refine bs_lload_n (pc' := 4) dX5_mixed_3 rfl rfl ?_
  refine bs_lmul (pc' := 5) dX5_mixed_4 rfl ?_
  refine bs_lload_n (pc' := 6) dX5_mixed_5 rfl rfl ?_
  refine bs_ladd (pc' := 7) dX5_mixed_6 rfl ?_
  exact bs_lret dX5_mixed_7 rfl ⟨rfl, rfl⟩
theorem sc_asNumber {h : Hp} {b : Bool} : bs_Sp G mX5_asNumber 0 0 0 [.int (bI b)] h (fun r h' => r = some (.int (bI b)) ∧ h' = h) := by
  refine bs_Sp.of (by decide) rfl ?_
  refine bs_iload_n (pc' := 1) dX5_asNumber_0 rfl rfl ?_
  refine bs_if_eq (tgt := 8) (pc' := 4) dX5_asNumber_1 rfl rfl (fun c1 => ?_) (fun c1 => ?_)
  · refine bs_iconst (v := 0) (pc' := 9) dX5_asNumber_8 (by decide) rfl ?_
    exact bs_iret dX5_asNumber_9 rfl ⟨by first | (rw [bI_0] at c1; rw [c1]; rfl) | (rw [bI_n0] at c1; rw [c1]; rfl), rfl⟩
  · refine bs_iconst (v := 1) (pc' := 5) dX5_asNumber_4 (by decide) rfl ?_
    refine bs_goto (tgt := 9) dX5_asNumber_5 rfl ?_
    exact bs_iret dX5_asNumber_9 rfl ⟨by first | (rw [bI_0] at c1; rw [c1]; rfl) | (rw [bI_n0] at c1; rw [c1]; rfl), rfl⟩
theorem sc_mixCell {a : Int64} (hD : d4 e t p q) (hn : n ≤ 12) (hK : kAt G (cH G h e t p q tg pm pr n v) k s ser (nI dp) lat) (hdp : dp ≤ 5) : bs_Sp G mX2_mixedInto 1 0 0 [.ref e, .long a, .ref k] (cH G h e t p q tg pm pr n v) (fun r h' => r = some (.long (d_itm tg pm (fun j => acf ser (pr j) dp 0) n 0 (mx (mx a v.toInt64) (nI n).toInt64))) ∧ h' = cH G h e t p q tg pm pr n v) := by
  refine bs_Sp.of (by decide) rfl ?_
  have loop : ∀ f j b, j + f = n → bs_B G (fun _ => True) mX2_mixedInto 1 0 0 (cH G h e t p q tg pm pr n v) 26 [(0, .ref e), (1, .long a), (3, .ref k), (4, .long b), (6, .int (nI j))] [] (fun r h' => r = some (.long (d_itm tg pm (fun j => acf ser (pr j) dp 0) f j b)) ∧ h' = cH G h e t p q tg pm pr n v) := by
    intro f
    induction f with
    | zero =>
      intro j b hj
      refine bs_iload (pc' := 28) dX2_mixedInto_26 rfl rfl ?_
      refine bs_aload_n (pc' := 29) dX2_mixedInto_28 rfl rfl rfl ?_
      refine bs_getf (pc' := 32) kf_X2_21 dX2_mixedInto_29 ce_e rfl rfl ?_
      refine bs_icmp_ge (tgt := 93) (pc' := 35) dX2_mixedInto_32 rfl rfl (fun _ => ?_) (fun c32 => absurd (nI_le (by omega) (by omega)) c32)
      refine bs_lload (pc' := 95) dX2_mixedInto_93 rfl rfl ?_
      exact bs_lret dX2_mixedInto_95 rfl ⟨rfl, rfl⟩
    | succ f ih =>
      intro j b hj
      refine bs_iload (pc' := 28) dX2_mixedInto_26 rfl rfl ?_
      refine bs_aload_n (pc' := 29) dX2_mixedInto_28 rfl rfl rfl ?_
      refine bs_getf (pc' := 32) kf_X2_21 dX2_mixedInto_29 ce_e rfl rfl ?_
      refine bs_icmp_ge (tgt := 93) (pc' := 35) dX2_mixedInto_32 rfl rfl (fun c32 => absurd c32 (nI_ge (by omega) (by omega))) (fun _ => ?_)
      refine bs_lload (pc' := 37) dX2_mixedInto_35 rfl rfl ?_
      refine bs_aload_n (pc' := 38) dX2_mixedInto_37 rfl rfl rfl ?_
      refine bs_getf (pc' := 41) kf_X2_9 dX2_mixedInto_38 ce_e rfl rfl ?_
      refine bs_iload (pc' := 43) dX2_mixedInto_41 rfl rfl ?_
      refine bs_ild (pc' := 44) dX2_mixedInto_43 (ce_t hD) j rfl ⟨by omega, by decide⟩ rfl ?_
      refine bs_i2l (pc' := 45) dX2_mixedInto_44 rfl ?_
      refine bs_callS (N := mX5_mixed) (pc' := 48) dX2_mixedInto_45 km_X2_66 ko_X5_mixed sc_mixed rfl rfl rfl (by omega) (Nat.le_refl _) (Nat.le_refl _) rfl ?_
      rintro _ _ ⟨rfl, rfl⟩
      refine bs_lstore (pc' := 50) (lv' := [(0, _), (1, _), (3, _), (4, _), (6, _)]) dX2_mixedInto_48 rfl rfl rfl ?_
      refine bs_lload (pc' := 52) dX2_mixedInto_50 rfl rfl ?_
      refine bs_aload_n (pc' := 53) dX2_mixedInto_52 rfl rfl rfl ?_
      refine bs_getf (pc' := 56) kf_X2_15 dX2_mixedInto_53 ce_e rfl rfl ?_
      refine bs_iload (pc' := 58) dX2_mixedInto_56 rfl rfl ?_
      refine bs_ild (pc' := 59) dX2_mixedInto_58 (ce_p hD) j rfl ⟨by omega, by decide⟩ rfl ?_
      refine bs_i2l (pc' := 60) dX2_mixedInto_59 rfl ?_
      refine bs_callS (N := mX5_mixed) (pc' := 63) dX2_mixedInto_60 km_X2_66 ko_X5_mixed sc_mixed rfl rfl rfl (by omega) (Nat.le_refl _) (Nat.le_refl _) rfl ?_
      rintro _ _ ⟨rfl, rfl⟩
      refine bs_lstore (pc' := 65) (lv' := [(0, _), (1, _), (3, _), (4, _), (6, _)]) dX2_mixedInto_63 rfl rfl rfl ?_
      refine bs_lload (pc' := 67) dX2_mixedInto_65 rfl rfl ?_
      refine bs_aload_n (pc' := 68) dX2_mixedInto_67 rfl rfl rfl ?_
      refine bs_aload_n (pc' := 69) dX2_mixedInto_68 rfl rfl rfl ?_
      refine bs_getf (pc' := 72) kf_X2_18 dX2_mixedInto_69 ce_e rfl rfl ?_
      refine bs_iload (pc' := 74) dX2_mixedInto_72 rfl rfl ?_
      refine bs_ild (pc' := 75) dX2_mixedInto_74 (ce_q hD) j rfl ⟨by omega, by decide⟩ rfl ?_
      refine bs_callV (N := mX1_isActive) (pc' := 78) dX2_mixedInto_75 km_X2_32 ko_X1_isActive (sc_isActive hK hdp) hK.1 rfl rfl rfl (by omega) (Nat.le_refl _) (Nat.le_refl _) rfl ?_
      rintro _ _ ⟨rfl, rfl⟩
      refine bs_callS (N := mX5_asNumber) (pc' := 81) dX2_mixedInto_78 km_X2_70 ko_X5_asNumber sc_asNumber rfl rfl rfl (by omega) (Nat.le_refl _) (Nat.le_refl _) rfl ?_
      rintro _ _ ⟨rfl, rfl⟩
      refine bs_i2l (pc' := 82) dX2_mixedInto_81 rfl ?_
      refine bs_callS (N := mX5_mixed) (pc' := 85) dX2_mixedInto_82 km_X2_66 ko_X5_mixed sc_mixed rfl rfl rfl (by omega) (Nat.le_refl _) (Nat.le_refl _) rfl ?_
      rintro _ _ ⟨rfl, rfl⟩
      refine bs_lstore (pc' := 87) (lv' := [(0, _), (1, _), (3, _), (4, _), (6, _)]) dX2_mixedInto_85 rfl rfl rfl ?_
      refine bs_iinc (pc' := 90) (lv' := [(0, _), (1, _), (3, _), (4, _), (6, _)]) dX2_mixedInto_87 rfl (nI_i1 j) rfl rfl rfl ?_
      refine bs_goto (tgt := 26) dX2_mixedInto_90 rfl ?_
      have e : (bI (acf ser (pr j) dp 0)).toInt64 = b64 (acf ser (pr j) dp 0) := by cases acf ser (pr j) dp 0 <;> decide
      rw [e]
      exact ih (j + 1) _ (by omega)
  refine bs_lload_n (pc' := 1) dX2_mixedInto_0 rfl rfl ?_
  refine bs_aload_n (pc' := 2) dX2_mixedInto_1 rfl rfl rfl ?_
  refine bs_getf (pc' := 5) kf_X2_63 dX2_mixedInto_2 ce_e rfl rfl ?_
  refine bs_i2l (pc' := 6) dX2_mixedInto_5 rfl ?_
  refine bs_callS (N := mX5_mixed) (pc' := 9) dX2_mixedInto_6 km_X2_66 ko_X5_mixed sc_mixed rfl rfl rfl (by omega) (Nat.le_refl _) (Nat.le_refl _) rfl ?_
  rintro _ _ ⟨rfl, rfl⟩
  refine bs_lstore (pc' := 11) (lv' := [(0, _), (1, _), (3, _), (4, _)]) dX2_mixedInto_9 rfl rfl rfl ?_
  refine bs_lload (pc' := 13) dX2_mixedInto_11 rfl rfl ?_
  refine bs_aload_n (pc' := 14) dX2_mixedInto_13 rfl rfl rfl ?_
  refine bs_getf (pc' := 17) kf_X2_21 dX2_mixedInto_14 ce_e rfl rfl ?_
  refine bs_i2l (pc' := 18) dX2_mixedInto_17 rfl ?_
  refine bs_callS (N := mX5_mixed) (pc' := 21) dX2_mixedInto_18 km_X2_66 ko_X5_mixed sc_mixed rfl rfl rfl (by omega) (Nat.le_refl _) (Nat.le_refl _) rfl ?_
  rintro _ _ ⟨rfl, rfl⟩
  refine bs_lstore (pc' := 23) (lv' := [(0, _), (1, _), (3, _), (4, _)]) dX2_mixedInto_21 rfl rfl rfl ?_
  refine bs_iconst (v := 0) (pc' := 24) dX2_mixedInto_23 (by decide) rfl ?_
  refine bs_istore (pc' := 26) (lv' := [(0, _), (1, _), (3, _), (4, _), (6, _)]) dX2_mixedInto_24 rfl rfl rfl ?_
  exact loop n 0 _ (Nat.zero_add _)
/-! the calls -/
theorem sc_enter {d0 : Nat} {L : Int32} (hD : s ≠ k) (hd : d0 ≤ 5) : bs_Sp G mX1_enter 0 0 0 [.ref k] (ck2 G h k s ser (nI d0) L) (fun r h' => if d0 < 5 then r = some (.int 1) ∧ h' = ck2 G h k s (upd ser d0 (L + 1)) (nI (d0 + 1)) (L + 1) else r = some (.int 0) ∧ h' = ck2 G h k s ser (nI d0) L) := by
  refine bs_Sp.of (by decide) rfl ?_
  refine bs_aload_n (pc' := 1) dX1_enter_0 rfl rfl rfl ?_
  refine bs_getf (pc' := 4) kf_X1_19 dX1_enter_1 ck_k rfl rfl ?_
  refine bs_iconst (v := 5) (pc' := 5) dX1_enter_4 (by decide) rfl ?_
  refine bs_icmp_lt (tgt := 10) (pc' := 8) dX1_enter_5 rfl rfl (fun c5 => ?_) (fun c5 => ?_)
  · have hlt : d0 < 5 := (nI_ltI (b := 5) (by omega) (by decide)).mp c5
    refine bs_aload_n (pc' := 11) dX1_enter_10 rfl rfl rfl ?_
    refine bs_dup (pc' := 12) dX1_enter_11 rfl rfl ?_
    refine bs_getf (pc' := 15) kf_X1_15 dX1_enter_12 ck_k rfl rfl ?_
    refine bs_iconst (v := 1) (pc' := 16) dX1_enter_15 (by decide) rfl ?_
    refine bs_iadd (pc' := 17) dX1_enter_16 rfl ?_
    refine ck_pt2 (pc' := 20) kf_X1_15 dX1_enter_17 rfl ?_
    refine bs_aload_n (pc' := 21) dX1_enter_20 rfl rfl rfl ?_
    refine bs_getf (pc' := 24) kf_X1_9 dX1_enter_21 ck_k rfl rfl ?_
    refine bs_aload_n (pc' := 25) dX1_enter_24 rfl rfl rfl ?_
    refine bs_getf (pc' := 28) kf_X1_19 dX1_enter_25 ck_k rfl rfl ?_
    refine bs_aload_n (pc' := 29) dX1_enter_28 rfl rfl rfl ?_
    refine bs_getf (pc' := 32) kf_X1_15 dX1_enter_29 ck_k rfl rfl ?_
    refine ck_st (pc' := 33) dX1_enter_32 hD d0 rfl hlt rfl ?_
    refine bs_aload_n (pc' := 34) dX1_enter_33 rfl rfl rfl ?_
    refine bs_dup (pc' := 35) dX1_enter_34 rfl rfl ?_
    refine bs_getf (pc' := 38) kf_X1_19 dX1_enter_35 ck_k rfl rfl ?_
    refine bs_iconst (v := 1) (pc' := 39) dX1_enter_38 (by decide) rfl ?_
    refine bs_iadd (pc' := 40) dX1_enter_39 rfl ?_
    refine bs_topi (nI (d0 + 1)) (nI_1 d0) ?_
    refine ck_pt1 (pc' := 43) kf_X1_19 dX1_enter_40 rfl ?_
    refine bs_iconst (v := 1) (pc' := 44) dX1_enter_43 (by decide) rfl ?_
    exact bs_zret dX1_enter_44 rfl (by decide) (by rw [if_pos hlt]; exact ⟨rfl, rfl⟩)
  · refine bs_iconst (v := 0) (pc' := 9) dX1_enter_8 (by decide) rfl ?_
    exact bs_zret dX1_enter_9 rfl (by decide) (by rw [if_neg (fun z => c5 (nI_lt (b := 5) z (by decide)))]; exact ⟨rfl, rfl⟩)
theorem sc_leave {d0 : Nat} {L : Int32} (hd : d0 ≤ 5) : bs_Sp G mX1_leave 0 0 0 [.ref k] (ck2 G h k s ser (nI d0) L) (fun r h' => if d0 = 0 then r = some (.int 0) ∧ h' = ck2 G h k s ser (nI d0) L else r = some (.int 1) ∧ h' = ck2 G h k s ser (nI (d0 - 1)) L) := by
  refine bs_Sp.of (by decide) rfl ?_
  refine bs_aload_n (pc' := 1) dX1_leave_0 rfl rfl rfl ?_
  refine bs_getf (pc' := 4) kf_X1_19 dX1_leave_1 ck_k rfl rfl ?_
  refine bs_if_ne (tgt := 9) (pc' := 7) dX1_leave_4 rfl rfl (fun c4 => ?_) (fun c4 => ?_)
  · have h0 : d0 ≠ 0 := fun z => c4 (by rw [z]; rfl)
    obtain ⟨d1, rfl⟩ : ∃ d1, d0 = d1 + 1 := ⟨d0 - 1, by omega⟩
    refine bs_aload_n (pc' := 10) dX1_leave_9 rfl rfl rfl ?_
    refine bs_dup (pc' := 11) dX1_leave_10 rfl rfl ?_
    refine bs_getf (pc' := 14) kf_X1_19 dX1_leave_11 ck_k rfl rfl ?_
    refine bs_iconst (v := 1) (pc' := 15) dX1_leave_14 (by decide) rfl ?_
    refine bs_isub (pc' := 16) dX1_leave_15 rfl ?_
    refine bs_topi (nI d1) (nI_pred d1) ?_
    refine ck_pt1 (pc' := 19) kf_X1_19 dX1_leave_16 rfl ?_
    refine bs_iconst (v := 1) (pc' := 20) dX1_leave_19 (by decide) rfl ?_
    exact bs_zret dX1_leave_20 rfl (by decide) (by rw [if_neg h0]; exact ⟨rfl, rfl⟩)
  · refine bs_iconst (v := 0) (pc' := 8) dX1_leave_7 (by decide) rfl ?_
    exact bs_zret dX1_leave_8 rfl (by decide) (by rw [if_pos (by rcases Nat.eq_zero_or_pos d0 with z | z; exact z; exact absurd c4 (nI_ne0 z (by omega)))]; exact ⟨rfl, rfl⟩)
theorem sc_innermost {h : Hp} {d0 : Nat} (hK : kAt G h k s ser (nI d0) lat) (hd : d0 ≤ 5) : bs_Sp G mX1_innermost 0 0 0 [.ref k] h (cQ h (if d0 = 0 then 0 else ser (d0 - 1))) := by
  refine bs_Sp.of (by decide) rfl ?_
  cases d0 with
  | zero =>
    refine bs_aload_n (pc' := 1) dX1_innermost_0 rfl rfl rfl ?_
    refine bs_getf (pc' := 4) kf_X1_19 dX1_innermost_1 hK.1 rfl rfl ?_
    refine bs_if_le (tgt := 21) (pc' := 7) dX1_innermost_4 rfl rfl (fun _ => ?_) (fun c4 => absurd (by decide) c4)
    refine bs_iconst (v := 0) (pc' := 22) dX1_innermost_21 (by decide) rfl ?_
    exact bs_iret dX1_innermost_22 rfl ⟨rfl, rfl⟩
  | succ d1 =>
    refine bs_aload_n (pc' := 1) dX1_innermost_0 rfl rfl rfl ?_
    refine bs_getf (pc' := 4) kf_X1_19 dX1_innermost_1 hK.1 rfl rfl ?_
    refine bs_if_le (tgt := 21) (pc' := 7) dX1_innermost_4 rfl rfl (fun c4 => absurd c4 (nI_nle (by omega) (by omega))) (fun _ => ?_)
    refine bs_aload_n (pc' := 8) dX1_innermost_7 rfl rfl rfl ?_
    refine bs_getf (pc' := 11) kf_X1_9 dX1_innermost_8 hK.1 rfl rfl ?_
    refine bs_aload_n (pc' := 12) dX1_innermost_11 rfl rfl rfl ?_
    refine bs_getf (pc' := 15) kf_X1_19 dX1_innermost_12 hK.1 rfl rfl ?_
    refine bs_iconst (v := 1) (pc' := 16) dX1_innermost_15 (by decide) rfl ?_
    refine bs_isub (pc' := 17) dX1_innermost_16 rfl ?_
    refine bs_ild (pc' := 18) dX1_innermost_17 hK.2 d1 (nI_pred d1) ⟨by omega, by decide⟩ rfl ?_
    refine bs_goto (tgt := 22) dX1_innermost_18 rfl ?_
    exact bs_iret dX1_innermost_22 rfl ⟨rfl, rfl⟩
end Cell2
