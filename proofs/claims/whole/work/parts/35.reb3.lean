/-- the class's cells lie in the heap, and hold the reference's state -/
def CR (G : GG) (h0 : Hp) (m : Nat) (ψ : MS) (B : Nat) (σ : MS) (h : Hp) : Prop := ∃ β κ, β 0 0 0 = m ∧ PI B σ κ ∧ Rep G h0 β (lk σ κ) h ∧ ∀ k, 19 ≤ k → k ≤ 22 → κ k = ψ k
section RReb3
variable {G : GG} {h0 h : Hp} {B m : Nat} {σ ψ : MS}
theorem r_performReborrow {p kd fr ct pr : Int32} (C : CR G h0 m ψ B σ h) : bs_Sp G mX5_performReborrow 5 1 2 [.ref m, .int p, .int kd, .int fr, .int ct, .int pr] h (fun v h' => v = some (.int (k_reb σ p kd fr ct pr).1) ∧ CR G h0 m ψ B (k_reb σ p kd fr ct pr).2 h') := by
  obtain ⟨β, κ, rfl, P, R, S⟩ := C
  have h60 := P.inv.nP.2
  by_cases hp : inb p (zN (σ 8 0)) = true
  · obtain ⟨j, hj, rfl⟩ := inb_t (by omega) hp
    have ha := (P.inv.ow hj).2
    have h8 := (P.inv.cl ha).1.2
    have hnA := P.inv.nA.2
    have ej : zN (nI j) = j := zN_nI (by omega)
    by_cases hk : (0 ≤ kd ∧ kd ≤ 2) ∧ (0 ≤ pr ∧ pr ≤ 1)
    · by_cases hr : rg fr ct (zN (σ 1 (zN (σ 9 j)))) = true
      · have hr' := hr
        rw [rg, decide_eq_true_eq] at hr'
        obtain ⟨r1, r2, r3, r4⟩ := hr'
        have hc1 : isC σ (nI j) fr = true := by
          unfold isC
          rw [hp, ej, inb_lt (by omega), decide_eq_true ⟨r1, r2⟩]
          rfl
        have hc2 : 1 ≤ ct ∧ ct ≤ σ 1 (zN (σ 9 (zN (nI j)))) - fr := by
          rw [ej, (P.inv.cl ha).1.1]
          exact ⟨r3, r4⟩
        obtain ⟨j', i, n, e1, rfl, rfl, hi, hn1, hn, e2, e3, e4⟩ := reb_pre P.inv hc1 hc2
        obtain rfl : j = j' := ej.symm.trans e2
        clear e1 e2
        have ek : k_reb σ (nI j) kd (nI i) (nI n) pr = if pr = 1 ∧ σ 11 0 = 0 then (-3, σ) else match fsV (rbK σ j kd) n i with
            | some i => (-5, vio σ (rbK σ j kd i) (nI i))
            | none => if σ 8 0 < 60 ∧ fit σ j kd n i = true then (σ 8 0, nwP (pts σ j kd (if pr = 1 then σ 11 0 else 0) n i) (σ 9 j) (nI j)) else (-4, σ) := by
          unfold k_reb
          rw [if_pos ⟨hc1, hk.1, hk.2, hc2⟩, ej, e3, e4]
          split
          · rfl
          · cases fsV (rbK σ j kd) n i <;> rfl
        by_cases hd : pr = 1 ∧ σ 11 0 = 0
        · rw [ek, if_pos hd]
          refine bs_Sp.of (by decide) rfl ?_
          refine bs_aload_n (pc' := 1) dX5_performReborrow_0 rfl rfl rfl ?_
          refine bs_iload_n (pc' := 2) dX5_performReborrow_1 rfl rfl ?_
          refine bs_callV (N := mX5_pointerAt) (pc' := 5) dX5_performReborrow_2 km_X5_75 ko_X5_pointerAt (r_pointerAt R P hj) R.M rfl rfl rfl (by omega) (Nat.le_refl _) (Nat.le_refl _) rfl ?_
          rintro _ _ ⟨rfl, rfl⟩
          refine bs_astore (pc' := 7) (lv' := [(0, _), (1, _), (2, _), (3, _), (4, _), (5, _), (6, _)]) dX5_performReborrow_5 rfl rfl rfl rfl ?_
          refine bs_aload (pc' := 9) dX5_performReborrow_7 rfl rfl rfl ?_
          refine bs_ifnull (pc' := 12) dX5_performReborrow_9 rfl ?_
          refine bs_iload_n (pc' := 13) dX5_performReborrow_12 rfl rfl ?_
          refine bs_if_lt (tgt := 32) (pc' := 16) dX5_performReborrow_13 rfl rfl (fun c13 => absurd c13 (Int32.not_lt.mpr hk.1.1)) (fun _ => ?_)
          refine bs_iload_n (pc' := 17) dX5_performReborrow_16 rfl rfl ?_
          refine bs_iconst (v := 2) (pc' := 18) dX5_performReborrow_17 (by decide) rfl ?_
          refine bs_icmp_gt (tgt := 32) (pc' := 21) dX5_performReborrow_18 rfl rfl (fun c18 => absurd c18 (Int32.not_lt.mpr hk.1.2)) (fun _ => ?_)
          refine bs_iload (pc' := 23) dX5_performReborrow_21 rfl rfl ?_
          refine bs_if_lt (tgt := 32) (pc' := 26) dX5_performReborrow_23 rfl rfl (fun c23 => absurd c23 (Int32.not_lt.mpr hk.2.1)) (fun _ => ?_)
          refine bs_iload (pc' := 28) dX5_performReborrow_26 rfl rfl ?_
          refine bs_iconst (v := 1) (pc' := 29) dX5_performReborrow_28 (by decide) rfl ?_
          refine bs_icmp_le (tgt := 35) (pc' := 32) dX5_performReborrow_29 rfl rfl (fun _ => ?_) (fun c29 => absurd hk.2.2 c29)
          refine bs_aload (pc' := 37) dX5_performReborrow_35 rfl rfl rfl ?_
          refine bs_getf (pc' := 40) kf_X5_83 dX5_performReborrow_37 (R.P hj) rfl rfl ?_
          refine bs_astore (pc' := 42) (lv' := [(0, _), (1, _), (2, _), (3, _), (4, _), (5, _), (6, _), (7, _)]) dX5_performReborrow_40 rfl rfl rfl rfl ?_
          refine bs_aload (pc' := 44) dX5_performReborrow_42 rfl rfl rfl ?_
          refine bs_iload_n (pc' := 45) dX5_performReborrow_44 rfl rfl ?_
          refine bs_iload (pc' := 47) dX5_performReborrow_45 rfl rfl ?_
          refine bs_callV (N := mX0_hasRange) (pc' := 50) dX5_performReborrow_47 km_X5_215 ko_X0_hasRange (ra_hasRange R ha) (R.O ha) rfl rfl rfl (by omega) (Nat.le_refl _) (Nat.le_refl _) rfl ?_
          rintro _ _ ⟨rfl, rfl⟩
          refine bs_if_ne (tgt := 56) (pc' := 53) dX5_performReborrow_50 rfl rfl (fun _ => ?_) (fun c50 => absurd c50 (by rw [hr]; decide))
          refine bs_iload (pc' := 58) dX5_performReborrow_56 rfl rfl ?_
          refine bs_iconst (v := 1) (pc' := 59) dX5_performReborrow_58 (by decide) rfl ?_
          refine bs_icmp_ne (tgt := 75) (pc' := 62) dX5_performReborrow_59 rfl rfl (fun c59 => absurd hd.1 c59) (fun _ => ?_)
          refine bs_aload_n (pc' := 63) dX5_performReborrow_62 rfl rfl rfl ?_
          refine bs_getf (pc' := 66) kf_X5_24 dX5_performReborrow_63 R.M rfl rfl ?_
          refine bs_getf (pc' := 69) kf_X5_149 dX5_performReborrow_66 R.C1 rfl rfl ?_
          refine bs_if_ne (tgt := 75) (pc' := 72) dX5_performReborrow_69 rfl rfl (fun c69 => absurd hd.2 c69) (fun _ => ?_)
          refine bs_bipush (v := (-3)) (pc' := 74) dX5_performReborrow_72 (by decide) rfl ?_
          exact bs_iret dX5_performReborrow_74 rfl ⟨rfl, β, κ, rfl, P, R, S⟩
        · rw [ek, if_neg hd]
          have j75 : bs_B G (fun _ => True) mX5_performReborrow 5 1 2 h 75 [(0, .ref (β 0 0 0)), (1, .int (nI j)), (2, .int kd), (3, .int (nI i)), (4, .int (nI n)), (5, .int pr), (6, .ref (β 1 j 0)), (7, .ref (β 2 (zN (σ 9 j)) 0))] [] (fun v h' => v = some (.int (match fsV (rbK σ j kd) n i with
              | some i => (-5, vio σ (rbK σ j kd i) (nI i))
              | none => if σ 8 0 < 60 ∧ fit σ j kd n i = true then (σ 8 0, nwP (pts σ j kd (if pr = 1 then σ 11 0 else 0) n i) (σ 9 j) (nI j)) else (-4, σ)).1) ∧ CR G h0 (β 0 0 0) ψ B (match fsV (rbK σ j kd) n i with
              | some i => (-5, vio σ (rbK σ j kd i) (nI i))
              | none => if σ 8 0 < 60 ∧ fit σ j kd n i = true then (σ 8 0, nwP (pts σ j kd (if pr = 1 then σ 11 0 else 0) n i) (σ 9 j) (nI j)) else (-4, σ)).2 h') := by
            by_cases hf : σ 2 (zN (σ 9 j)) = 0
            · have eK : rbK σ j kd = fun i' => rbW σ (8 * zN (σ 9 j) + i') kd (nI j) := by
                funext i'
                rw [rbK_W, if_neg (fun z => z hf)]
                rfl
              have loop : ∀ f x (rm : Bool), i ≤ x → x + f = i + n → (∀ y, i ≤ y → y < x → rbW σ (8 * zN (σ 9 j) + y) kd (nI j) = 0) → (rm = true ↔ σ 8 0 < 60 ∧ ∀ y, i ≤ y → y < x → szB σ j kd y ≤ 12) → bs_B G (fun _ => True) mX5_performReborrow 5 1 2 h 109 [(0, .ref (β 0 0 0)), (1, .int (nI j)), (2, .int kd), (3, .int (nI i)), (4, .int (nI n)), (5, .int pr), (6, .ref (β 1 j 0)), (7, .ref (β 2 (zN (σ 9 j)) 0)), (8, .int (bI rm)), (9, .int (nI x))] [] (fun v h' => v = some (.int (match fsV (rbK σ j kd) n i with
                  | some i => (-5, vio σ (rbK σ j kd i) (nI i))
                  | none => if σ 8 0 < 60 ∧ fit σ j kd n i = true then (σ 8 0, nwP (pts σ j kd (if pr = 1 then σ 11 0 else 0) n i) (σ 9 j) (nI j)) else (-4, σ)).1) ∧ CR G h0 (β 0 0 0) ψ B (match fsV (rbK σ j kd) n i with
                  | some i => (-5, vio σ (rbK σ j kd i) (nI i))
                  | none => if σ 8 0 < 60 ∧ fit σ j kd n i = true then (σ 8 0, nwP (pts σ j kd (if pr = 1 then σ 11 0 else 0) n i) (σ 9 j) (nI j)) else (-4, σ)).2 h') := by
                intro f
                induction f with
                | zero =>
                  intro x rm hx hxf h0' hrm
                  have ev : fsV (rbK σ j kd) n i = none := fsV_all (fun y y1 y2 => by rw [eK]; exact h0' y y1 (by omega))
                  rw [ev]
                  by_cases hm : rm = true
                  · obtain ⟨m1, m2⟩ := hrm.mp hm
                    have hfit : fit σ j kd n i = true := fit_of (fun y y1 y2 => m2 y y1 (by omega))
                    have hlt : zN (σ 8 0) < 60 := by
                      rw [P.inv.nP.1, show (60 : Int32) = nI 60 from rfl, nI_ltI (by omega) (by decide)] at m1
                      exact m1
                    subst hm
                    have put : ∀ g q, gOK (κ 23) (zN (σ 11 0)) g q → nn q (zN (κ 16 0)) → bs_B G (fun _ => True) mX5_performReborrow 5 1 2 h 215 [(0, .ref (β 0 0 0)), (1, .int (nI j)), (2, .int kd), (3, .int (nI i)), (4, .int (nI n)), (5, .int pr), (6, .ref (β 1 j 0)), (7, .ref (β 2 (zN (σ 9 j)) 0)), (8, .int (bI true)), (9, .int q), (10, .int (nI i))] [] (fun v h' => v = some (.int (σ 8 0)) ∧ CR G h0 (β 0 0 0) ψ B (nwP (pts σ j kd g n i) (σ 9 j) (nI j)) h') := fun g q g1 g2 =>
                      (r_rebPut (u8 := .null) n i σ κ h R P ha rfl hj hlt (Nat.le_refl _) rfl hn (fun y y1 y2 => ⟨h0' y y1 (by omega), m2 y y1 (by omega)⟩) g1 g2).mono (fun v h' z => by
                        obtain ⟨z1, q', κ', z2, z4, z3⟩ := z
                        exact ⟨z1, adB β (zN (σ 8 0)) q', κ', adB_n (by decide), z2, z3, fun k k1 k2 => (z4 k (by omega)).trans (S k k1 k2)⟩)
                    show bs_B G (fun _ => True) mX5_performReborrow 5 1 2 h 109 _ _ (fun v h' => v = some (.int (if σ 8 0 < 60 ∧ fit σ j kd n i = true then (σ 8 0, nwP (pts σ j kd (if pr = 1 then σ 11 0 else 0) n i) (σ 9 j) (nI j)) else (-4, σ)).1) ∧ CR G h0 (β 0 0 0) ψ B (if σ 8 0 < 60 ∧ fit σ j kd n i = true then (σ 8 0, nwP (pts σ j kd (if pr = 1 then σ 11 0 else 0) n i) (σ 9 j) (nI j)) else (-4, σ)).2 h')
                    rw [if_pos ⟨m1, hfit⟩]
                    by_cases hq : pr = 1
                    · have hdp : zN (σ 11 0) ≠ 0 := fun e => hd ⟨hq, by rw [P.inv.dp.1, e]; rfl⟩
                      have h5 := P.inv.dp.2
                      have ss := P.ser.1 (zN (σ 11 0) - 1) (by omega)
                      rw [if_pos hq]
                      refine bs_iload (pc' := 111) dX5_performReborrow_109 rfl rfl ?_
                      refine bs_iload_n (pc' := 112) dX5_performReborrow_111 rfl rfl ?_
                      refine bs_iload (pc' := 114) dX5_performReborrow_112 rfl rfl ?_
                      refine bs_iadd (pc' := 115) dX5_performReborrow_114 rfl ?_
                      refine bs_icmp_ge (tgt := 185) (pc' := 118) dX5_performReborrow_115 rfl rfl (fun _ => ?_) (fun c115 => absurd (by rw [nI_add]; exact nI_le (by omega) (by omega)) c115)
                      refine bs_iload (pc' := 187) dX5_performReborrow_185 rfl rfl ?_
                      refine bs_if_ne (tgt := 193) (pc' := 190) dX5_performReborrow_187 rfl rfl (fun _ => ?_) (fun c187 => absurd c187 (by decide))
                      refine bs_iload (pc' := 195) dX5_performReborrow_193 rfl rfl ?_
                      refine bs_iconst (v := 1) (pc' := 196) dX5_performReborrow_195 (by decide) rfl ?_
                      refine bs_icmp_ne (tgt := 209) (pc' := 199) dX5_performReborrow_196 rfl rfl (fun c196 => absurd hq c196) (fun _ => ?_)
                      refine bs_aload_n (pc' := 200) dX5_performReborrow_199 rfl rfl rfl ?_
                      refine bs_getf (pc' := 203) kf_X5_24 dX5_performReborrow_200 R.M rfl rfl ?_
                      refine bs_callV (N := mX1_innermost) (pc' := 206) dX5_performReborrow_203 km_X5_230 ko_X1_innermost (sc_innermost (R.kE P) h5) R.C1 rfl rfl rfl (by omega) (Nat.le_refl _) (Nat.le_refl _) rfl ?_
                      rintro _ _ ⟨rfl, rfl⟩
                      rw [if_neg hdp]
                      refine bs_goto (tgt := 210) dX5_performReborrow_206 rfl ?_
                      refine bs_istore (pc' := 212) (lv' := [(0, _), (1, _), (2, _), (3, _), (4, _), (5, _), (6, _), (7, _), (8, _), (9, _)]) dX5_performReborrow_210 rfl rfl rfl ?_
                      refine bs_iload_n (pc' := 213) dX5_performReborrow_212 rfl rfl ?_
                      refine bs_istore (pc' := 215) (lv' := [(0, _), (1, _), (2, _), (3, _), (4, _), (5, _), (6, _), (7, _), (8, _), (9, _), (10, _)]) dX5_performReborrow_213 rfl rfl rfl ?_
                      exact put _ _ (Or.inr ⟨zN (σ 11 0) - 1, by omega, by rw [show zN (σ 11 0) - 1 + 1 = zN (σ 11 0) by omega]; exact P.inv.dp.1, rfl⟩) ss.1
                    · rw [if_neg hq]
                      refine bs_iload (pc' := 111) dX5_performReborrow_109 rfl rfl ?_
                      refine bs_iload_n (pc' := 112) dX5_performReborrow_111 rfl rfl ?_
                      refine bs_iload (pc' := 114) dX5_performReborrow_112 rfl rfl ?_
                      refine bs_iadd (pc' := 115) dX5_performReborrow_114 rfl ?_
                      refine bs_icmp_ge (tgt := 185) (pc' := 118) dX5_performReborrow_115 rfl rfl (fun _ => ?_) (fun c115 => absurd (by rw [nI_add]; exact nI_le (by omega) (by omega)) c115)
                      refine bs_iload (pc' := 187) dX5_performReborrow_185 rfl rfl ?_
                      refine bs_if_ne (tgt := 193) (pc' := 190) dX5_performReborrow_187 rfl rfl (fun _ => ?_) (fun c187 => absurd c187 (by decide))
                      refine bs_iload (pc' := 195) dX5_performReborrow_193 rfl rfl ?_
                      refine bs_iconst (v := 1) (pc' := 196) dX5_performReborrow_195 (by decide) rfl ?_
                      refine bs_icmp_ne (tgt := 209) (pc' := 199) dX5_performReborrow_196 rfl rfl (fun _ => ?_) (fun c196 => absurd c196 hq)
                      refine bs_iconst (v := 0) (pc' := 210) dX5_performReborrow_209 (by decide) rfl ?_
                      refine bs_istore (pc' := 212) (lv' := [(0, _), (1, _), (2, _), (3, _), (4, _), (5, _), (6, _), (7, _), (8, _), (9, _)]) dX5_performReborrow_210 rfl rfl rfl ?_
                      refine bs_iload_n (pc' := 213) dX5_performReborrow_212 rfl rfl ?_
                      refine bs_istore (pc' := 215) (lv' := [(0, _), (1, _), (2, _), (3, _), (4, _), (5, _), (6, _), (7, _), (8, _), (9, _), (10, _)]) dX5_performReborrow_213 rfl rfl rfl ?_
                      exact put _ _ (Or.inl ⟨rfl, fun l hl z => by have := (P.ser.1 l hl).2; rw [z] at this; exact absurd this (by decide)⟩) nn_0
                  · have hno : ¬ (σ 8 0 < 60 ∧ fit σ j kd n i = true) := fun z => hm (hrm.mpr ⟨z.1, fun y y1 y2 => fit_all z.2 y y1 (by omega)⟩)
                    have hm' : rm = false := by simpa using hm
                    subst hm'
                    show bs_B G (fun _ => True) mX5_performReborrow 5 1 2 h 109 _ _ (fun v h' => v = some (.int (if σ 8 0 < 60 ∧ fit σ j kd n i = true then (σ 8 0, nwP (pts σ j kd (if pr = 1 then σ 11 0 else 0) n i) (σ 9 j) (nI j)) else (-4, σ)).1) ∧ CR G h0 (β 0 0 0) ψ B (if σ 8 0 < 60 ∧ fit σ j kd n i = true then (σ 8 0, nwP (pts σ j kd (if pr = 1 then σ 11 0 else 0) n i) (σ 9 j) (nI j)) else (-4, σ)).2 h')
                    rw [if_neg hno]
                    refine bs_iload (pc' := 111) dX5_performReborrow_109 rfl rfl ?_
                    refine bs_iload_n (pc' := 112) dX5_performReborrow_111 rfl rfl ?_
                    refine bs_iload (pc' := 114) dX5_performReborrow_112 rfl rfl ?_
                    refine bs_iadd (pc' := 115) dX5_performReborrow_114 rfl ?_
                    refine bs_icmp_ge (tgt := 185) (pc' := 118) dX5_performReborrow_115 rfl rfl (fun _ => ?_) (fun c115 => absurd (by rw [nI_add]; exact nI_le (by omega) (by omega)) c115)
                    refine bs_iload (pc' := 187) dX5_performReborrow_185 rfl rfl ?_
                    refine bs_if_ne (tgt := 193) (pc' := 190) dX5_performReborrow_187 rfl rfl (fun c187 => absurd rfl c187) (fun _ => ?_)
                    refine bs_bipush (v := (-4)) (pc' := 192) dX5_performReborrow_190 (by decide) rfl ?_
                    exact bs_iret dX5_performReborrow_192 rfl ⟨rfl, β, κ, rfl, P, R, S⟩
                | succ f ih =>
                  intro x rm hx hxf h0' hrm
                  have hc := oL P ha (show x < zN (σ 1 (zN (σ 9 j))) by omega)
                  have next : ∀ rm' : Bool, rbW σ (8 * zN (σ 9 j) + x) kd (nI j) = 0 → (rm' = true ↔ rm = true ∧ szB σ j kd x ≤ 12) → _ := fun rm' z1 z2 => ih (x + 1) rm' (by omega) (by omega) (fun y y1 y2 => by
                    by_cases e : y = x
                    · subst e; exact z1
                    · exact h0' y y1 (by omega)) (by
                    rw [z2, hrm]
                    constructor
                    · rintro ⟨⟨a1, a2⟩, a3⟩
                      refine ⟨a1, fun y y1 y2 => ?_⟩
                      by_cases e : y = x
                      · subst e; exact a3
                      · exact a2 y y1 (by omega)
                    · rintro ⟨a1, a2⟩
                      exact ⟨⟨a1, fun y y1 y2 => a2 y y1 (by omega)⟩, a2 x hx (by omega)⟩)
                  have hsz : rbW σ (8 * zN (σ 9 j) + x) kd (nI j) = 0 → ((if kd = 0 then kpW σ (8 * zN (σ 9 j) + x) (nI j) else zN (σ 4 (8 * zN (σ 9 j) + x))) < 12 ↔ szB σ j kd x ≤ 12) := fun z => by
                    rw [szB_12 (p := j) (i := x) z]
                    show _ ↔ 1 + (if kd = 0 then kpW σ (8 * zN (σ 9 j) + x) (nI j) else zN (σ 4 (8 * zN (σ 9 j) + x))) ≤ 12
                    omega
                  refine bs_iload (pc' := 111) dX5_performReborrow_109 rfl rfl ?_
                  refine bs_iload_n (pc' := 112) dX5_performReborrow_111 rfl rfl ?_
                  refine bs_iload (pc' := 114) dX5_performReborrow_112 rfl rfl ?_
                  refine bs_iadd (pc' := 115) dX5_performReborrow_114 rfl ?_
                  refine bs_icmp_ge (tgt := 185) (pc' := 118) dX5_performReborrow_115 rfl rfl (fun c115 => absurd c115 (by rw [nI_add]; exact nI_ge (by omega) (by omega))) (fun _ => ?_)
                  refine bs_aload (pc' := 120) dX5_performReborrow_118 rfl rfl rfl ?_
                  refine bs_getf (pc' := 123) kf_X5_219 dX5_performReborrow_120 (R.O ha) rfl rfl ?_
                  refine bs_iload (pc' := 125) dX5_performReborrow_123 rfl rfl ?_
                  refine bs_rld (pc' := 126) dX5_performReborrow_125 (R.aK ha) (by decide) x rfl ⟨by omega, by omega⟩ _ (rfs_at (show x < zN (σ 1 (zN (σ 9 j))) by omega)) rfl ?_
                  refine bs_iload_n (pc' := 127) dX5_performReborrow_126 rfl rfl ?_
                  refine bs_iload_n (pc' := 128) dX5_performReborrow_127 rfl rfl ?_
                  refine bs_aload_n (pc' := 129) dX5_performReborrow_128 rfl rfl rfl ?_
                  refine bs_getf (pc' := 132) kf_X5_24 dX5_performReborrow_129 R.M rfl rfl ?_
                  refine bs_callV (N := mX2_reborrowViolation) (pc' := 135) dX5_performReborrow_132 km_X5_223 ko_X2_reborrowViolation (rc_reborrowViolation R P hc) (R.E hc) rfl rfl rfl (by omega) (Nat.le_refl _) (Nat.le_refl _) rfl ?_
                  rintro _ _ ⟨rfl, rfl⟩
                  refine bs_istore (pc' := 137) (lv' := [(0, _), (1, _), (2, _), (3, _), (4, _), (5, _), (6, _), (7, _), (8, _), (9, _), (10, _)]) dX5_performReborrow_135 rfl rfl rfl ?_
                  refine bs_iload (pc' := 139) dX5_performReborrow_137 rfl rfl ?_
                  refine bs_if_eq (tgt := 151) (pc' := 142) dX5_performReborrow_139 rfl rfl (fun c139 => ?_) (fun c139 => ?_)
                  · refine bs_iload (pc' := 153) dX5_performReborrow_151 rfl rfl ?_
                    refine bs_if_eq (tgt := 176) (pc' := 156) dX5_performReborrow_153 rfl rfl (fun c153 => ?_) (fun c153 => ?_)
                    · refine bs_iconst (v := 0) (pc' := 177) dX5_performReborrow_176 (by decide) rfl ?_
                      refine bs_istore (pc' := 179) (lv' := [(0, _), (1, _), (2, _), (3, _), (4, _), (5, _), (6, _), (7, _), (8, _), (9, _), (10, _)]) dX5_performReborrow_177 rfl rfl rfl ?_
                      refine bs_iinc (pc' := 182) (lv' := [(0, _), (1, _), (2, _), (3, _), (4, _), (5, _), (6, _), (7, _), (8, _), (9, _), (10, _)]) dX5_performReborrow_179 rfl (nI_i1 x) rfl rfl rfl ?_
                      refine bs_sub [0, 1, 2, 3, 4, 5, 6, 7, 8, 9] rfl ?_
                      refine bs_goto (tgt := 109) dX5_performReborrow_182 rfl ?_
                      first
                        | exact next false c139 ⟨fun z => Bool.noConfusion (show false = true from z), fun z => absurd c153 (bI_n0.mpr z.1)⟩
                        | exact next false c139 ⟨fun z => Bool.noConfusion (show false = true from z), fun z => absurd (decide_eq_true ((hsz c139).mpr z.2)) (by rw [bI_0.mp c169]; decide)⟩
                        | exact next true c139 ⟨fun _ => ⟨bI_n0.mp c153, (hsz c139).mp (of_decide_eq_true (bI_n0.mp c169))⟩, fun _ => rfl⟩
                    · refine bs_aload (pc' := 158) dX5_performReborrow_156 rfl rfl rfl ?_
                      refine bs_getf (pc' := 161) kf_X5_219 dX5_performReborrow_158 (R.O ha) rfl rfl ?_
                      refine bs_iload (pc' := 163) dX5_performReborrow_161 rfl rfl ?_
                      refine bs_rld (pc' := 164) dX5_performReborrow_163 (R.aK ha) (by decide) x rfl ⟨by omega, by omega⟩ _ (rfs_at (show x < zN (σ 1 (zN (σ 9 j))) by omega)) rfl ?_
                      refine bs_iload_n (pc' := 165) dX5_performReborrow_164 rfl rfl ?_
                      refine bs_iload_n (pc' := 166) dX5_performReborrow_165 rfl rfl ?_
                      refine bs_callV (N := mX2_hasRoomToReborrow) (pc' := 169) dX5_performReborrow_166 km_X5_227 ko_X2_hasRoomToReborrow (rc_hasRoom R P hc) (R.E hc) rfl rfl rfl (by omega) (Nat.le_refl _) (Nat.le_refl _) rfl ?_
                      rintro _ _ ⟨rfl, rfl⟩
                      refine bs_if_eq (tgt := 176) (pc' := 172) dX5_performReborrow_169 rfl rfl (fun c169 => ?_) (fun c169 => ?_)
                      · refine bs_iconst (v := 0) (pc' := 177) dX5_performReborrow_176 (by decide) rfl ?_
                        refine bs_istore (pc' := 179) (lv' := [(0, _), (1, _), (2, _), (3, _), (4, _), (5, _), (6, _), (7, _), (8, _), (9, _), (10, _)]) dX5_performReborrow_177 rfl rfl rfl ?_
                        refine bs_iinc (pc' := 182) (lv' := [(0, _), (1, _), (2, _), (3, _), (4, _), (5, _), (6, _), (7, _), (8, _), (9, _), (10, _)]) dX5_performReborrow_179 rfl (nI_i1 x) rfl rfl rfl ?_
                        refine bs_sub [0, 1, 2, 3, 4, 5, 6, 7, 8, 9] rfl ?_
                        refine bs_goto (tgt := 109) dX5_performReborrow_182 rfl ?_
                        first
                          | exact next false c139 ⟨fun z => Bool.noConfusion (show false = true from z), fun z => absurd c153 (bI_n0.mpr z.1)⟩
                          | exact next false c139 ⟨fun z => Bool.noConfusion (show false = true from z), fun z => absurd (decide_eq_true ((hsz c139).mpr z.2)) (by rw [bI_0.mp c169]; decide)⟩
                          | exact next true c139 ⟨fun _ => ⟨bI_n0.mp c153, (hsz c139).mp (of_decide_eq_true (bI_n0.mp c169))⟩, fun _ => rfl⟩
                      · refine bs_iconst (v := 1) (pc' := 173) dX5_performReborrow_172 (by decide) rfl ?_
                        refine bs_goto (tgt := 177) dX5_performReborrow_173 rfl ?_
                        refine bs_istore (pc' := 179) (lv' := [(0, _), (1, _), (2, _), (3, _), (4, _), (5, _), (6, _), (7, _), (8, _), (9, _), (10, _)]) dX5_performReborrow_177 rfl rfl rfl ?_
                        refine bs_iinc (pc' := 182) (lv' := [(0, _), (1, _), (2, _), (3, _), (4, _), (5, _), (6, _), (7, _), (8, _), (9, _), (10, _)]) dX5_performReborrow_179 rfl (nI_i1 x) rfl rfl rfl ?_
                        refine bs_sub [0, 1, 2, 3, 4, 5, 6, 7, 8, 9] rfl ?_
                        refine bs_goto (tgt := 109) dX5_performReborrow_182 rfl ?_
                        first
                          | exact next false c139 ⟨fun z => Bool.noConfusion (show false = true from z), fun z => absurd c153 (bI_n0.mpr z.1)⟩
                          | exact next false c139 ⟨fun z => Bool.noConfusion (show false = true from z), fun z => absurd (decide_eq_true ((hsz c139).mpr z.2)) (by rw [bI_0.mp c169]; decide)⟩
                          | exact next true c139 ⟨fun _ => ⟨bI_n0.mp c153, (hsz c139).mp (of_decide_eq_true (bI_n0.mp c169))⟩, fun _ => rfl⟩
                  · refine bs_aload_n (pc' := 143) dX5_performReborrow_142 rfl rfl rfl ?_
                    refine bs_iload (pc' := 145) dX5_performReborrow_143 rfl rfl ?_
                    refine bs_iload (pc' := 147) dX5_performReborrow_145 rfl rfl ?_
                    refine bs_callV (N := mX5_violated) (pc' := 150) dX5_performReborrow_147 km_X5_202 ko_X5_violated (r_violated R) R.M rfl rfl rfl (by omega) (Nat.le_refl _) (Nat.le_refl _) rfl ?_
                    rintro _ h ⟨rfl, R⟩
                    have ev : fsV (rbK σ j kd) n i = some x := fsV_at (by rw [eK]; exact c139) hx (by omega) (fun y y1 y2 => by rw [eK]; exact h0' y y1 y2)
                    have ex : rbK σ j kd x = rbW σ (8 * zN (σ 9 j) + x) kd (nI j) := by rw [eK]
                    exact bs_iret dX5_performReborrow_150 rfl ⟨by rw [ev], by rw [ev]; exact ⟨β, κ, rfl, P.of (fun k hk => vio_k (by omega)), by show Rep G h0 β (lk (vio σ (rbK σ j kd x) (nI x)) κ) _; rw [ex]; exact R, S⟩⟩
              have fst0 : bs_B G (fun _ => True) mX5_performReborrow 5 1 2 h 104 [(0, .ref (β 0 0 0)), (1, .int (nI j)), (2, .int kd), (3, .int (nI i)), (4, .int (nI n)), (5, .int pr), (6, .ref (β 1 j 0)), (7, .ref (β 2 (zN (σ 9 j)) 0))] [.int (bI (decide (σ 8 0 < 60)))] (fun v h' => v = some (.int (match fsV (rbK σ j kd) n i with
                  | some i => (-5, vio σ (rbK σ j kd i) (nI i))
                  | none => if σ 8 0 < 60 ∧ fit σ j kd n i = true then (σ 8 0, nwP (pts σ j kd (if pr = 1 then σ 11 0 else 0) n i) (σ 9 j) (nI j)) else (-4, σ)).1) ∧ CR G h0 (β 0 0 0) ψ B (match fsV (rbK σ j kd) n i with
                  | some i => (-5, vio σ (rbK σ j kd i) (nI i))
                  | none => if σ 8 0 < 60 ∧ fit σ j kd n i = true then (σ 8 0, nwP (pts σ j kd (if pr = 1 then σ 11 0 else 0) n i) (σ 9 j) (nI j)) else (-4, σ)).2 h') := by
                refine bs_istore (pc' := 106) (lv' := [(0, _), (1, _), (2, _), (3, _), (4, _), (5, _), (6, _), (7, _), (8, _)]) dX5_performReborrow_104 rfl rfl rfl ?_
                refine bs_iload_n (pc' := 107) dX5_performReborrow_106 rfl rfl ?_
                refine bs_istore (pc' := 109) (lv' := [(0, _), (1, _), (2, _), (3, _), (4, _), (5, _), (6, _), (7, _), (8, _), (9, _)]) dX5_performReborrow_107 rfl rfl rfl ?_
                exact loop n i (decide (σ 8 0 < 60)) (Nat.le_refl _) rfl (fun y y1 y2 => absurd y2 (by omega)) ⟨fun z => ⟨of_decide_eq_true z, fun y y1 y2 => absurd y2 (by omega)⟩, fun z => decide_eq_true z.1⟩
              refine bs_aload (pc' := 77) dX5_performReborrow_75 rfl rfl rfl ?_
              refine bs_getf (pc' := 80) kf_X5_87 dX5_performReborrow_77 (R.O ha) rfl rfl ?_
              refine bs_if_eq (tgt := 90) (pc' := 83) dX5_performReborrow_80 rfl rfl (fun _ => ?_) (fun c80 => absurd hf c80)
              refine bs_aload_n (pc' := 91) dX5_performReborrow_90 rfl rfl rfl ?_
              refine bs_getf (pc' := 94) kf_X5_146 dX5_performReborrow_91 R.M rfl rfl ?_
              refine bs_bipush (v := 60) (pc' := 96) dX5_performReborrow_94 (by decide) rfl ?_
              refine bs_icmp_ge (tgt := 103) (pc' := 99) dX5_performReborrow_96 rfl rfl (fun c96 => ?_) (fun c96 => ?_)
              · have e9 : (0 : Int32) = bI (decide (σ 8 0 < 60)) := by rw [decide_eq_false (Int32.not_lt.mpr c96)]; rfl
                refine bs_iconst (v := 0) (pc' := 104) dX5_performReborrow_103 (by decide) rfl ?_
                exact bs_topi _ e9 fst0
              · have e9 : (1 : Int32) = bI (decide (σ 8 0 < 60)) := by rw [decide_eq_true (Int32.not_le.mp c96)]; rfl
                refine bs_iconst (v := 1) (pc' := 100) dX5_performReborrow_99 (by decide) rfl ?_
                refine bs_goto (tgt := 104) dX5_performReborrow_100 rfl ?_
                exact bs_topi _ e9 fst0
            · have ev : fsV (rbK σ j kd) n i = some i := fsV_at (by rw [rbK_W, if_pos hf]; decide) (Nat.le_refl _) (by omega) (fun y y1 y2 => absurd y2 (by omega))
              have e3' : rbK σ j kd i = 3 := by rw [rbK_W, if_pos hf]
              rw [ev]
              refine bs_aload (pc' := 77) dX5_performReborrow_75 rfl rfl rfl ?_
              refine bs_getf (pc' := 80) kf_X5_87 dX5_performReborrow_77 (R.O ha) rfl rfl ?_
              refine bs_if_eq (tgt := 90) (pc' := 83) dX5_performReborrow_80 rfl rfl (fun c80 => absurd c80 hf) (fun _ => ?_)
              refine bs_aload_n (pc' := 84) dX5_performReborrow_83 rfl rfl rfl ?_
              refine bs_iconst (v := 3) (pc' := 85) dX5_performReborrow_84 (by decide) rfl ?_
              refine bs_iload_n (pc' := 86) dX5_performReborrow_85 rfl rfl ?_
              refine bs_callV (N := mX5_violated) (pc' := 89) dX5_performReborrow_86 km_X5_202 ko_X5_violated (r_violated R) R.M rfl rfl rfl (by omega) (Nat.le_refl _) (Nat.le_refl _) rfl ?_
              rintro _ h ⟨rfl, R⟩
              exact bs_iret dX5_performReborrow_89 rfl ⟨rfl, β, κ, rfl, P.of (fun k hk => vio_k (by omega)), by show Rep G h0 β (lk (vio σ (rbK σ j kd i) (nI i)) κ) _; rw [e3']; exact R, S⟩
          refine bs_Sp.of (by decide) rfl ?_
          refine bs_aload_n (pc' := 1) dX5_performReborrow_0 rfl rfl rfl ?_
          refine bs_iload_n (pc' := 2) dX5_performReborrow_1 rfl rfl ?_
          refine bs_callV (N := mX5_pointerAt) (pc' := 5) dX5_performReborrow_2 km_X5_75 ko_X5_pointerAt (r_pointerAt R P hj) R.M rfl rfl rfl (by omega) (Nat.le_refl _) (Nat.le_refl _) rfl ?_
          rintro _ _ ⟨rfl, rfl⟩
          refine bs_astore (pc' := 7) (lv' := [(0, _), (1, _), (2, _), (3, _), (4, _), (5, _), (6, _)]) dX5_performReborrow_5 rfl rfl rfl rfl ?_
          refine bs_aload (pc' := 9) dX5_performReborrow_7 rfl rfl rfl ?_
          refine bs_ifnull (pc' := 12) dX5_performReborrow_9 rfl ?_
          refine bs_iload_n (pc' := 13) dX5_performReborrow_12 rfl rfl ?_
          refine bs_if_lt (tgt := 32) (pc' := 16) dX5_performReborrow_13 rfl rfl (fun c13 => absurd c13 (Int32.not_lt.mpr hk.1.1)) (fun _ => ?_)
          refine bs_iload_n (pc' := 17) dX5_performReborrow_16 rfl rfl ?_
          refine bs_iconst (v := 2) (pc' := 18) dX5_performReborrow_17 (by decide) rfl ?_
          refine bs_icmp_gt (tgt := 32) (pc' := 21) dX5_performReborrow_18 rfl rfl (fun c18 => absurd c18 (Int32.not_lt.mpr hk.1.2)) (fun _ => ?_)
          refine bs_iload (pc' := 23) dX5_performReborrow_21 rfl rfl ?_
          refine bs_if_lt (tgt := 32) (pc' := 26) dX5_performReborrow_23 rfl rfl (fun c23 => absurd c23 (Int32.not_lt.mpr hk.2.1)) (fun _ => ?_)
          refine bs_iload (pc' := 28) dX5_performReborrow_26 rfl rfl ?_
          refine bs_iconst (v := 1) (pc' := 29) dX5_performReborrow_28 (by decide) rfl ?_
          refine bs_icmp_le (tgt := 35) (pc' := 32) dX5_performReborrow_29 rfl rfl (fun _ => ?_) (fun c29 => absurd hk.2.2 c29)
          refine bs_aload (pc' := 37) dX5_performReborrow_35 rfl rfl rfl ?_
          refine bs_getf (pc' := 40) kf_X5_83 dX5_performReborrow_37 (R.P hj) rfl rfl ?_
          refine bs_astore (pc' := 42) (lv' := [(0, _), (1, _), (2, _), (3, _), (4, _), (5, _), (6, _), (7, _)]) dX5_performReborrow_40 rfl rfl rfl rfl ?_
          refine bs_aload (pc' := 44) dX5_performReborrow_42 rfl rfl rfl ?_
          refine bs_iload_n (pc' := 45) dX5_performReborrow_44 rfl rfl ?_
          refine bs_iload (pc' := 47) dX5_performReborrow_45 rfl rfl ?_
          refine bs_callV (N := mX0_hasRange) (pc' := 50) dX5_performReborrow_47 km_X5_215 ko_X0_hasRange (ra_hasRange R ha) (R.O ha) rfl rfl rfl (by omega) (Nat.le_refl _) (Nat.le_refl _) rfl ?_
          rintro _ _ ⟨rfl, rfl⟩
          refine bs_if_ne (tgt := 56) (pc' := 53) dX5_performReborrow_50 rfl rfl (fun _ => ?_) (fun c50 => absurd c50 (by rw [hr]; decide))
          refine bs_iload (pc' := 58) dX5_performReborrow_56 rfl rfl ?_
          refine bs_iconst (v := 1) (pc' := 59) dX5_performReborrow_58 (by decide) rfl ?_
          refine bs_icmp_ne (tgt := 75) (pc' := 62) dX5_performReborrow_59 rfl rfl (fun c59 => ?_) (fun c59 => ?_)
          · exact j75
          · refine bs_aload_n (pc' := 63) dX5_performReborrow_62 rfl rfl rfl ?_
            refine bs_getf (pc' := 66) kf_X5_24 dX5_performReborrow_63 R.M rfl rfl ?_
            refine bs_getf (pc' := 69) kf_X5_149 dX5_performReborrow_66 R.C1 rfl rfl ?_
            refine bs_if_ne (tgt := 75) (pc' := 72) dX5_performReborrow_69 rfl rfl (fun c69 => ?_) (fun c69 => ?_)
            · exact j75
            · exact absurd ⟨c59, c69⟩ hd
      · have ek : k_reb σ (nI j) kd fr ct pr = (-2, σ) := by
          unfold k_reb
          rw [if_neg]
          rintro ⟨z1, -, -, z2⟩
          obtain ⟨j', i, n, e1, rfl, rfl, hi, hn1, hn, e2, e3, e4⟩ := reb_pre P.inv z1 z2
          obtain rfl : j = j' := ej.symm.trans e2
          apply hr
          rw [rg, decide_eq_true_eq]
          rw [ej, (P.inv.cl ha).1.1] at z2
          have hi2 := hi.2
          exact ⟨nI_pos' (by omega), nI_lt hi.2 (by omega), z2⟩
        rw [ek]
        have hr' : rg fr ct (zN (σ 1 (zN (σ 9 j)))) = false := by simpa using hr
        refine bs_Sp.of (by decide) rfl ?_
        refine bs_aload_n (pc' := 1) dX5_performReborrow_0 rfl rfl rfl ?_
        refine bs_iload_n (pc' := 2) dX5_performReborrow_1 rfl rfl ?_
        refine bs_callV (N := mX5_pointerAt) (pc' := 5) dX5_performReborrow_2 km_X5_75 ko_X5_pointerAt (r_pointerAt R P hj) R.M rfl rfl rfl (by omega) (Nat.le_refl _) (Nat.le_refl _) rfl ?_
        rintro _ _ ⟨rfl, rfl⟩
        refine bs_astore (pc' := 7) (lv' := [(0, _), (1, _), (2, _), (3, _), (4, _), (5, _), (6, _)]) dX5_performReborrow_5 rfl rfl rfl rfl ?_
        refine bs_aload (pc' := 9) dX5_performReborrow_7 rfl rfl rfl ?_
        refine bs_ifnull (pc' := 12) dX5_performReborrow_9 rfl ?_
        refine bs_iload_n (pc' := 13) dX5_performReborrow_12 rfl rfl ?_
        refine bs_if_lt (tgt := 32) (pc' := 16) dX5_performReborrow_13 rfl rfl (fun c13 => absurd c13 (Int32.not_lt.mpr hk.1.1)) (fun _ => ?_)
        refine bs_iload_n (pc' := 17) dX5_performReborrow_16 rfl rfl ?_
        refine bs_iconst (v := 2) (pc' := 18) dX5_performReborrow_17 (by decide) rfl ?_
        refine bs_icmp_gt (tgt := 32) (pc' := 21) dX5_performReborrow_18 rfl rfl (fun c18 => absurd c18 (Int32.not_lt.mpr hk.1.2)) (fun _ => ?_)
        refine bs_iload (pc' := 23) dX5_performReborrow_21 rfl rfl ?_
        refine bs_if_lt (tgt := 32) (pc' := 26) dX5_performReborrow_23 rfl rfl (fun c23 => absurd c23 (Int32.not_lt.mpr hk.2.1)) (fun _ => ?_)
        refine bs_iload (pc' := 28) dX5_performReborrow_26 rfl rfl ?_
        refine bs_iconst (v := 1) (pc' := 29) dX5_performReborrow_28 (by decide) rfl ?_
        refine bs_icmp_le (tgt := 35) (pc' := 32) dX5_performReborrow_29 rfl rfl (fun _ => ?_) (fun c29 => absurd hk.2.2 c29)
        refine bs_aload (pc' := 37) dX5_performReborrow_35 rfl rfl rfl ?_
        refine bs_getf (pc' := 40) kf_X5_83 dX5_performReborrow_37 (R.P hj) rfl rfl ?_
        refine bs_astore (pc' := 42) (lv' := [(0, _), (1, _), (2, _), (3, _), (4, _), (5, _), (6, _), (7, _)]) dX5_performReborrow_40 rfl rfl rfl rfl ?_
        refine bs_aload (pc' := 44) dX5_performReborrow_42 rfl rfl rfl ?_
        refine bs_iload_n (pc' := 45) dX5_performReborrow_44 rfl rfl ?_
        refine bs_iload (pc' := 47) dX5_performReborrow_45 rfl rfl ?_
        refine bs_callV (N := mX0_hasRange) (pc' := 50) dX5_performReborrow_47 km_X5_215 ko_X0_hasRange (ra_hasRange R ha) (R.O ha) rfl rfl rfl (by omega) (Nat.le_refl _) (Nat.le_refl _) rfl ?_
        rintro _ _ ⟨rfl, rfl⟩
        refine bs_if_ne (tgt := 56) (pc' := 53) dX5_performReborrow_50 rfl rfl (fun c50 => absurd (by rw [hr']; rfl) c50) (fun _ => ?_)
        refine bs_bipush (v := (-2)) (pc' := 55) dX5_performReborrow_53 (by decide) rfl ?_
        exact bs_iret dX5_performReborrow_55 rfl ⟨rfl, β, κ, rfl, P, R, S⟩
    · have ek : k_reb σ (nI j) kd fr ct pr = (-2, σ) := by
        unfold k_reb
        rw [if_neg (fun z => hk ⟨z.2.1, z.2.2.1⟩)]
      rw [ek]
      refine bs_Sp.of (by decide) rfl ?_
      refine bs_aload_n (pc' := 1) dX5_performReborrow_0 rfl rfl rfl ?_
      refine bs_iload_n (pc' := 2) dX5_performReborrow_1 rfl rfl ?_
      refine bs_callV (N := mX5_pointerAt) (pc' := 5) dX5_performReborrow_2 km_X5_75 ko_X5_pointerAt (r_pointerAt R P hj) R.M rfl rfl rfl (by omega) (Nat.le_refl _) (Nat.le_refl _) rfl ?_
      rintro _ _ ⟨rfl, rfl⟩
      refine bs_astore (pc' := 7) (lv' := [(0, _), (1, _), (2, _), (3, _), (4, _), (5, _), (6, _)]) dX5_performReborrow_5 rfl rfl rfl rfl ?_
      refine bs_aload (pc' := 9) dX5_performReborrow_7 rfl rfl rfl ?_
      refine bs_ifnull (pc' := 12) dX5_performReborrow_9 rfl ?_
      refine bs_iload_n (pc' := 13) dX5_performReborrow_12 rfl rfl ?_
      refine bs_if_lt (tgt := 32) (pc' := 16) dX5_performReborrow_13 rfl rfl (fun c13 => ?_) (fun c13 => ?_)
      · refine bs_bipush (v := (-2)) (pc' := 34) dX5_performReborrow_32 (by decide) rfl ?_
        exact bs_iret dX5_performReborrow_34 rfl ⟨rfl, β, κ, rfl, P, R, S⟩
      · refine bs_iload_n (pc' := 17) dX5_performReborrow_16 rfl rfl ?_
        refine bs_iconst (v := 2) (pc' := 18) dX5_performReborrow_17 (by decide) rfl ?_
        refine bs_icmp_gt (tgt := 32) (pc' := 21) dX5_performReborrow_18 rfl rfl (fun c18 => ?_) (fun c18 => ?_)
        · refine bs_bipush (v := (-2)) (pc' := 34) dX5_performReborrow_32 (by decide) rfl ?_
          exact bs_iret dX5_performReborrow_34 rfl ⟨rfl, β, κ, rfl, P, R, S⟩
        · refine bs_iload (pc' := 23) dX5_performReborrow_21 rfl rfl ?_
          refine bs_if_lt (tgt := 32) (pc' := 26) dX5_performReborrow_23 rfl rfl (fun c23 => ?_) (fun c23 => ?_)
          · refine bs_bipush (v := (-2)) (pc' := 34) dX5_performReborrow_32 (by decide) rfl ?_
            exact bs_iret dX5_performReborrow_34 rfl ⟨rfl, β, κ, rfl, P, R, S⟩
          · refine bs_iload (pc' := 28) dX5_performReborrow_26 rfl rfl ?_
            refine bs_iconst (v := 1) (pc' := 29) dX5_performReborrow_28 (by decide) rfl ?_
            refine bs_icmp_le (tgt := 35) (pc' := 32) dX5_performReborrow_29 rfl rfl (fun c29 => ?_) (fun c29 => ?_)
            · exact absurd ⟨⟨Int32.not_lt.mp c13, Int32.not_lt.mp c18⟩, ⟨Int32.not_lt.mp c23, c29⟩⟩ hk
            · refine bs_bipush (v := (-2)) (pc' := 34) dX5_performReborrow_32 (by decide) rfl ?_
              exact bs_iret dX5_performReborrow_34 rfl ⟨rfl, β, κ, rfl, P, R, S⟩
  · have hp' : inb p (zN (σ 8 0)) = false := by simpa using hp
    have ek : k_reb σ p kd fr ct pr = (-2, σ) := by
      unfold k_reb
      rw [isC_p hp', if_neg (fun z => Bool.noConfusion (show false = true from z.1))]
    rw [ek]
    refine bs_Sp.of (by decide) rfl ?_
    refine bs_aload_n (pc' := 1) dX5_performReborrow_0 rfl rfl rfl ?_
    refine bs_iload_n (pc' := 2) dX5_performReborrow_1 rfl rfl ?_
    refine bs_callV (N := mX5_pointerAt) (pc' := 5) dX5_performReborrow_2 km_X5_75 ko_X5_pointerAt (r_pointerAtN R P hp') R.M rfl rfl rfl (by omega) (Nat.le_refl _) (Nat.le_refl _) rfl ?_
    rintro _ _ ⟨rfl, rfl⟩
    refine bs_astore (pc' := 7) (lv' := [(0, _), (1, _), (2, _), (3, _), (4, _), (5, _), (6, _)]) dX5_performReborrow_5 rfl rfl rfl rfl ?_
    refine bs_aload (pc' := 9) dX5_performReborrow_7 rfl rfl rfl ?_
    refine bs_ifnullN (tgt := 32) dX5_performReborrow_9 rfl ?_
    refine bs_bipush (v := (-2)) (pc' := 34) dX5_performReborrow_32 (by decide) rfl ?_
    exact bs_iret dX5_performReborrow_34 rfl ⟨rfl, β, κ, rfl, P, R, S⟩
end RReb3
