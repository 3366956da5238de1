theorem bs_B.more {G : GG} {X : State → Prop} {M : MI} {d bc bs bc2 bs2 : Nat} {h : Hp} {pc : Nat} {lv : List (Nat × Value)} {st : List Value} {Q : Option Value → Hp → Prop} (hb : bs_B G X M d bc bs h pc lv st Q) (h1 : bc ≤ bc2) (h2 : bs ≤ bs2) : bs_B G X M d bc2 bs2 h pc lv st Q := by
  intro p l e R s m args below meth c H locs cells slots QQ ls C hH hS hc hs hl hr
  exact hb p l e R s m args below meth c H locs cells slots QQ ls C hH hS (by omega) (by omega) hl (fun v h' H' locs' cells' slots' pc' ls' a1 a2 a3 a4 a5 => hr v h' H' locs' cells' slots' pc' ls' a1 a2 a3 (by omega) (by omega))
section Run2
variable {G : GG} {h0 h : Hp} {B m : Nat} {σ κ ψ : MS}
/-- the commands one after another -/
theorem r_loop {τ : MS} {n : Nat} (hag : agr τ ψ) (hn : zN (τ 21 0) = n) (en : ψ 21 0 = nI n) (h60 : n ≤ 60) : ∀ (f k B : Nat) (σ : MS) (h : Hp), CR G h0 m ψ B σ h → B + f < 1000000 → σ 16 0 = 1 → σ 19 = τ 19 → σ 20 = τ 20 → σ 21 0 = nI n → k + f = n →
    bs_B G (fun _ => True) mX5_runScript 7 (34 * (zN ((s_exa f k σ).2 0 0) - zN (σ 0 0)) + f) (339 * (zN ((s_exa f k σ).2 0 0) - zN (σ 0 0)) + 2 * f) h 20 [(0, .ref m), (1, .int (-1)), (2, .int (nI k))] [] (fun r h' => r = some (.int (s_exa f k σ).1) ∧ CR G h0 m ψ (B + f) (s_exa f k σ).2 h')
  := by
  intro f
  induction f with
  | zero =>
    intro k B σ h C hB h1 e19 e20 e21 hk
    obtain ⟨β, κ, rfl, P, R, S⟩ := C
    have k21 : κ 21 0 = nI n := by rw [S 21 (by decide) (by decide)]; exact en
    refine bs_iload_n (pc' := 21) dX5_runScript_20 rfl rfl ?_
    refine bs_aload_n (pc' := 22) dX5_runScript_21 rfl rfl rfl ?_
    refine bs_getf (pc' := 25) kf_X5_31 dX5_runScript_22 R.M rfl rfl ?_
    refine bs_getf (pc' := 28) kf_X5_164 dX5_runScript_25 R.S1 rfl rfl ?_
    refine bs_topi _ k21 ?_
    refine bs_icmp_ge (tgt := 54) (pc' := 31) dX5_runScript_28 rfl rfl (fun _ => ?_) (fun c28 => absurd (nI_le (by omega) (by omega)) c28)
    refine bs_aload_n (pc' := 55) dX5_runScript_54 rfl rfl rfl ?_
    refine bs_getf (pc' := 58) kf_X5_31 dX5_runScript_55 R.M rfl rfl ?_
    refine bs_getf (pc' := 61) kf_X5_164 dX5_runScript_58 R.S1 rfl rfl ?_
    exact bs_iret dX5_runScript_61 rfl ⟨by rw [k21, ← e21]; rfl, β, κ, rfl, P, R, S⟩
  | succ f ih =>
    intro k B σ h C hB h1 e19 e20 e21 hk
    have C0 := C
    obtain ⟨β, κ, rfl, P, R, S⟩ := C
    have k21 : κ 21 0 = nI n := by rw [S 21 (by decide) (by decide)]; exact en
    have ee := exe_1 (k := k) P h1 e19 e20 hag (by omega)
    have k1 := (cmd_1 (c := ψ 19 k) (x := ψ 20 (3 * k)) (y := ψ 20 (3 * k + 1)) (z := ψ 20 (3 * k + 2)) P h1).2
    have an := ans_cmd (c := ψ 19 k) (x := ψ 20 (3 * k)) (y := ψ 20 (3 * k + 1)) (z := ψ 20 (3 * k + 2)) P
    have oks := ok_cmd (c := σ 19 k) (x := σ 20 (3 * k)) (y := σ 20 (3 * k + 1)) (z := σ 20 (3 * k + 2)) P.inv
    have mo : zN (σ 0 0) ≤ zN ((s_exe σ k).2 0 0) := mono_s P.inv
    have hv : mny (ψ 19 k) ≠ none := by
      obtain ⟨a1, q0, hq0, -⟩ := hag k (by omega)
      rw [a1, hq0]
      intro z
      cases z
    have sp := c_cmd0 (k := k) C0 (by omega) en (by omega) h60 hv
    rw [← ee] at k1 an sp
    have ex : s_exa (f + 1) k σ = if (s_exe σ k).1 ≤ -2 then (-1000 - nI k, (s_exe σ k).2) else s_exa f (k + 1) (s_exe σ k).2 := rfl
    have mz : zN ((s_exe σ k).2 0 0) ≤ zN ((s_exa (f + 1) k σ).2 0 0) := by
      rw [ex]
      split
      · exact Nat.le_refl _
      · exact exa_mono f (k + 1) _ oks.1
    refine bs_iload_n (pc' := 21) dX5_runScript_20 rfl rfl ?_
    refine bs_aload_n (pc' := 22) dX5_runScript_21 rfl rfl rfl ?_
    refine bs_getf (pc' := 25) kf_X5_31 dX5_runScript_22 R.M rfl rfl ?_
    refine bs_getf (pc' := 28) kf_X5_164 dX5_runScript_25 R.S1 rfl rfl ?_
    refine bs_topi _ k21 ?_
    refine bs_icmp_ge (tgt := 54) (pc' := 31) dX5_runScript_28 rfl rfl (fun c28 => absurd c28 (nI_ge (by omega) (by omega))) (fun _ => ?_)
    refine bs_aload_n (pc' := 32) dX5_runScript_31 rfl rfl rfl ?_
    refine bs_iload_n (pc' := 33) dX5_runScript_32 rfl rfl ?_
    refine bs_callV (N := mX5_performCommand) (pc' := 36) dX5_runScript_33 km_X5_167 ko_X5_performCommand sp R.M rfl rfl rfl (by omega) (show (34 * (zN ((s_exa (f + 1) k σ).2 0 0) - zN ((s_exe σ k).2 0 0)) + f) + _ ≤ _ by omega) (show (339 * (zN ((s_exa (f + 1) k σ).2 0 0) - zN ((s_exe σ k).2 0 0)) + 2 * f) + _ ≤ _ by omega) rfl ?_
    rintro _ h1' ⟨rfl, C1⟩
    refine bs_callS (N := mX5_isFailure) (pc' := 39) dX5_runScript_36 km_X5_170 ko_X5_isFailure s_isFailure rfl rfl rfl (by omega) (Nat.le_refl _) (Nat.le_refl _) rfl ?_
    rintro _ _ ⟨rfl, rfl⟩
    rw [okA_F an]
    refine bs_if_eq (tgt := 48) (pc' := 42) dX5_runScript_39 rfl rfl (fun c39 => ?_) (fun c39 => ?_)
    · refine bs_iinc (pc' := 51) (lv' := [(0, _), (1, _), (2, _)]) dX5_runScript_48 rfl (nI_i1 k) rfl rfl rfl ?_
      refine bs_goto (tgt := 20) dX5_runScript_51 rfl ?_
      rw [ex, if_neg (of_decide_eq_false (bI_0.mp c39))]
      have ih := ih (k + 1) (B + 1) _ _ C1 (by omega) k1 ((oks.2 19 (by unfold kScr; omega)).trans e19) ((oks.2 20 (by unfold kScr; omega)).trans e20) ((congrFun (oks.2 21 (by unfold kScr; omega)) 0).trans e21) (by omega)
      rw [show B + 1 + f = B + (f + 1) by omega] at ih
      exact ih
    · refine bs_sipush (v := (-1000)) (pc' := 45) dX5_runScript_42 (by decide) rfl ?_
      refine bs_iload_n (pc' := 46) dX5_runScript_45 rfl rfl ?_
      refine bs_isub (pc' := 47) dX5_runScript_46 rfl ?_
      exact bs_iret dX5_runScript_47 rfl ⟨by rw [ex, if_pos (of_decide_eq_true (bI_n0.mp c39))], by rw [ex, if_pos (of_decide_eq_true (bI_n0.mp c39))]; exact C1.up (by omega)⟩
theorem lk_of {σ' : MS} (e : ∀ k, k < 19 → k ≠ 7 → k ≠ 16 → σ' k = σ k) : lk σ' κ = lk σ κ := by
  funext k
  by_cases q : k = 7 ∨ k = 16 ∨ 19 ≤ k
  · rw [lk_o q, lk_o q]
  · rw [lk_s q, lk_s q, e k (by omega) (by omega) (by omega)]
theorem p_runScript (C : CR G h0 m ψ B σ h) (hB : B + 60 < 1000000) : bs_Sp G mX5_runScript 7 (34 * (zN ((s_run σ).2 0 0) - zN (σ 0 0)) + 60) (339 * (zN ((s_run σ).2 0 0) - zN (σ 0 0)) + 120) [.ref m] h (fun r h' => r = some (.int (s_run σ).1) ∧ ∃ ψ', CR G h0 m ψ' (B + 60) (s_run σ).2 h') := by
  obtain ⟨β, κ, rfl, P, R, S⟩ := C
  have J := P.mlk
  obtain ⟨s1, s2, s3⟩ := sim_par P.inv J (lk_s (k := 17) (by decide)) (lk_s (k := 18) (by decide))
  obtain ⟨t1, t2⟩ := read_ok P.inv
  have sp := ss_parse (G := G) (h := h) (ψ := lk σ κ) R.d5 J
  unfold sSp sQ at sp
  rw [R.sk] at sp
  have eκ : lk (t_read σ).2 (c_par (lk σ κ)).2 = (c_par (lk σ κ)).2 := by
    funext k
    by_cases q : k = 7 ∨ k = 16 ∨ 19 ≤ k
    · rw [lk_o q]
    · rw [lk_s q, t2 k (by omega), cpar_n J (Or.inl (by omega)), lk_s q]
  have P1 : PI B (t_read σ).2 (c_par (lk σ κ)).2 := by
    refine (P.of (fun k hk => t2 k (by omega))).ofk (fun k hk => ?_)
    rw [cpar_n J (by omega), lk_o (by omega)]
  have R1 := R.scr (υ' := (c_par (lk σ κ)).2) (fun k hk => cpar_n J (by omega))
  rw [← eκ] at R1 sp
  unfold s_run
  by_cases ht : (t_read σ).1 = true
  · have r := s2 ht
    have e21 : (c_par (lk σ κ)).2 21 0 = (t_read σ).2 21 0 := r.1.2.2.2.2.1
    have n21 := t1.2.2.2.1
    have n60 : zN ((t_read σ).2 21 0) ≤ 60 := by
      have a1 := t1.2.2.2.2
      have a2 := t1.2.2.1
      have a3 := t1.n
      omega
    have C1 : CR G h0 (β 0 0 0) (c_par (lk σ κ)).2 B (ms_u (t_read σ).2 16 0 1) _ := CR.row16 ⟨β, _, rfl, P1, R1, fun _ _ _ => rfl⟩
    have lp := r_loop (τ := (t_read σ).2) r.2.2 rfl (e21.trans n21) n60 _ 0 B _ _ C1 (by omega) rfl rfl rfl n21 (Nat.zero_add _)
    rw [if_pos ht]
    have e0 : zN (ms_u (t_read σ).2 16 0 1 0 0) = zN (σ 0 0) := by rw [ms_u_n (by decide), t2 0 (by decide)]
    rw [e0] at lp
    rw [if_pos (s1.trans ht)] at sp
    have es : zN (((s_exa (zN ((t_read σ).2 21 0)) 0 (ms_u (t_read σ).2 16 0 1)).1, ms_u (s_exa (zN ((t_read σ).2 21 0)) 0 (ms_u (t_read σ).2 16 0 1)).2 16 0 0).2 0 0) = zN ((s_exa (zN ((t_read σ).2 21 0)) 0 (ms_u (t_read σ).2 16 0 1)).2 0 0) := congrArg zN (congrFun (ms_u_n (k := 16) (i := 0) (x := 0) (k' := 0) (by decide)) 0)
    rw [es]
    refine bs_Sp.of (by decide) rfl ?_
    refine bs_aload_n (pc' := 1) dX5_runScript_0 rfl rfl rfl ?_
    refine bs_getf (pc' := 4) kf_X5_31 dX5_runScript_1 R.M rfl rfl ?_
    refine bs_callV (N := mX4_parse) (pc' := 7) dX5_runScript_4 km_X5_161 ko_X4_parse sp R.S1 rfl rfl rfl (by omega) (Nat.le_refl _) (Nat.le_refl _) rfl ?_
    rintro _ _ ⟨rfl, rfl⟩
    refine bs_istore_n (pc' := 8) (lv' := [(0, _), (1, _)]) dX5_runScript_7 rfl rfl rfl ?_
    refine bs_iload_n (pc' := 9) dX5_runScript_8 rfl rfl ?_
    refine bs_iconst (v := (-1)) (pc' := 10) dX5_runScript_9 (by decide) rfl ?_
    refine bs_icmp_eq (tgt := 18) (pc' := 13) dX5_runScript_10 rfl rfl (fun _ => ?_) (fun c10 => absurd rfl c10)
    refine bs_iconst (v := 0) (pc' := 19) dX5_runScript_18 (by decide) rfl ?_
    refine bs_istore_n (pc' := 20) (lv' := [(0, _), (1, _), (2, _)]) dX5_runScript_19 rfl rfl rfl ?_
    refine (bs_B.more lp (by omega) (by omega)).mono ?_
    rintro r h' ⟨rfl, C2⟩
    exact ⟨rfl, _, (C2.up (by omega)).row16⟩
  · have ht' : (t_read σ).1 = false := by simpa using ht
    have c1 : ¬ (c_par (lk σ κ)).1 = true := by rw [s1]; exact ht
    rw [if_neg ht]
    rw [if_neg c1, show lk (t_read σ).2 (c_par (lk σ κ)).2 22 0 = (t_read σ).2 22 0 from (congrFun (congrFun eκ 22) 0).trans (s3 ht')] at sp
    have w := t1.2.1
    have w2 := t1.2.2.1
    have w3 := t1.n
    refine bs_Sp.of (by decide) rfl ?_
    refine bs_aload_n (pc' := 1) dX5_runScript_0 rfl rfl rfl ?_
    refine bs_getf (pc' := 4) kf_X5_31 dX5_runScript_1 R.M rfl rfl ?_
    refine bs_callV (N := mX4_parse) (pc' := 7) dX5_runScript_4 km_X5_161 ko_X4_parse sp R.S1 rfl rfl rfl (by omega) (Nat.le_refl _) (Nat.le_refl _) rfl ?_
    rintro _ _ ⟨rfl, rfl⟩
    refine bs_istore_n (pc' := 8) (lv' := [(0, _), (1, _)]) dX5_runScript_7 rfl rfl rfl ?_
    refine bs_iload_n (pc' := 9) dX5_runScript_8 rfl rfl ?_
    refine bs_iconst (v := (-1)) (pc' := 10) dX5_runScript_9 (by decide) rfl ?_
    refine bs_icmp_eq (tgt := 18) (pc' := 13) dX5_runScript_10 rfl rfl (fun c10 => absurd c10 (by rw [w]; exact nI_ne_m1 (by omega))) (fun _ => ?_)
    refine bs_bipush (v := (-10)) (pc' := 15) dX5_runScript_13 (by decide) rfl ?_
    refine bs_iload_n (pc' := 16) dX5_runScript_15 rfl rfl ?_
    refine bs_isub (pc' := 17) dX5_runScript_16 rfl ?_
    exact bs_iret dX5_runScript_17 rfl ⟨rfl, _, β, _, rfl, P1.up (by omega), R1, fun _ _ _ => rfl⟩
end Run2
