/-! text, and one command of a script -/
section Cmd
variable {G : GG} {h0 h : Hp} {B m : Nat} {σ κ ψ : MS} {p : Int32} {β : AB}
theorem PI_18 {x : Int32} (P : PI B σ κ) (hx : nn x 120) : PI B (ms_u σ 18 0 x) κ := by
  have e : ∀ k, k ≠ 18 → ms_u σ 18 0 x k = σ k := fun k hk => ms_u_n hk
  have hI := P.inv
  obtain ⟨h1, h2, h3, h4, h5, h6, h7, h8⟩ := hI
  refine ⟨?_, ?_, ?_, ?_, ?_, ?_, ?_, P.lat, ?_, P.pro, ?_⟩
  · unfold mInv
    rw [e 0 (by decide), e 1 (by decide), e 4 (by decide), e 8 (by decide), e 9 (by decide), e 11 (by decide), ms_u_k]
    exact ⟨h1, h2, h3, by unfold upd; rw [if_pos rfl]; exact hx, h5, h6, h7, h8⟩
  · rw [e 3 (by decide)]; exact P.val
  · rw [e 2 (by decide)]; exact P.frd
  · rw [e 6 (by decide)]; exact P.prm
  · rw [e 2 (by decide), e 0 (by decide)]; exact P.fr2
  · rw [e 3 (by decide), e 0 (by decide)]; exact P.fr3
  · rw [e 5 (by decide), e 6 (by decide), e 7 (by decide), e 0 (by decide)]; exact P.fr5
  · rw [e 11 (by decide)]; exact P.ser
  · rw [e 11 (by decide), e 7 (by decide)]; exact P.grd
theorem p_append (C : CR G h0 m ψ B σ h) (h16 : σ 16 0 = 0) : bs_Sp G mX5_append 1 0 0 [.ref m, .int p] h (fun r h' => r = some (.int (s_app σ p).1) ∧ CR G h0 m ψ B (s_app σ p).2 h') := by
  obtain ⟨β, κ, rfl, P, R, S⟩ := C
  unfold s_app
  by_cases hp : 0 ≤ p ∧ p ≤ 127
  · rw [if_pos hp]
    have ln := P.inv.ln
    have sp := ss_addByte (G := G) (h := h) (ψ := lk σ κ) (v := p) R.d5 ln
    unfold sSp at sp
    rw [R.sk] at sp
    by_cases hf : σ 18 0 = 120
    · rw [if_pos hf]
      have hz : ¬ zN (lk σ κ 18 0) < 120 := by
        rw [lk_s (k := 18) (by decide), hf]
        decide
      simp only [if_neg hz] at sp
      refine bs_Sp.of (by decide) rfl ?_
      refine bs_iload_n (pc' := 1) dX5_append_0 rfl rfl ?_
      refine bs_if_lt (tgt := 10) (pc' := 4) dX5_append_1 rfl rfl (fun c1 => absurd c1 (Int32.not_lt.mpr hp.1)) (fun _ => ?_)
      refine bs_iload_n (pc' := 5) dX5_append_4 rfl rfl ?_
      refine bs_bipush (v := 127) (pc' := 7) dX5_append_5 (by decide) rfl ?_
      refine bs_icmp_le (tgt := 17) (pc' := 10) dX5_append_7 rfl rfl (fun _ => ?_) (fun c7 => absurd hp.2 c7)
      refine bs_aload_n (pc' := 18) dX5_append_17 rfl rfl rfl ?_
      refine bs_getf (pc' := 21) kf_X5_31 dX5_append_18 R.M rfl rfl ?_
      refine bs_iload_n (pc' := 22) dX5_append_21 rfl rfl ?_
      refine bs_callV (N := mX4_addByte) (pc' := 25) dX5_append_22 km_X5_155 ko_X4_addByte sp R.S1 rfl rfl rfl (by omega) (Nat.le_refl _) (Nat.le_refl _) rfl ?_
      rintro _ _ ⟨rfl, rfl⟩
      refine bs_if_eq (tgt := 38) (pc' := 28) dX5_append_25 rfl rfl (fun _ => ?_) (fun c25 => absurd rfl c25)
      refine bs_aload_n (pc' := 39) dX5_append_38 rfl rfl rfl ?_
      refine bs_bipush (v := (-4)) (pc' := 41) dX5_append_39 (by decide) rfl ?_
      refine bs_callV (N := mX5_counted) (pc' := 44) dX5_append_41 km_X5_50 ko_X5_counted (c_counted ⟨β, κ, rfl, P, R, S⟩ h16) R.M rfl rfl rfl (by omega) (Nat.le_refl _) (Nat.le_refl _) rfl ?_
      rintro _ h2 ⟨rfl, C2⟩
      exact bs_iret dX5_append_44 rfl ⟨rfl, C2⟩
    · rw [if_neg hf]
      have h120 : zN (σ 18 0) < 120 := by
        have h1 := ln.2
        have : zN (σ 18 0) ≠ 120 := fun e => hf (by rw [ln.1, e]; rfl)
        omega
      have hz : zN (lk σ κ 18 0) < 120 := h120
      simp only [if_pos hz] at sp
      have eu : ms_u (ms_u (lk σ κ) 17 (zN (lk σ κ 18 0)) p) 18 0 (lk σ κ 18 0 + 1) = lk (ms_u (ms_u σ 17 (zN (σ 18 0)) p) 18 0 (σ 18 0 + 1)) κ := by
        rw [lk_u (by omega), lk_u (by omega), lk_s (k := 18) (by decide)]
      rw [eu] at sp
      have P1 : PI B (ms_u (ms_u σ 17 (zN (σ 18 0)) p) 18 0 (σ 18 0 + 1)) κ := PI_18 (P.of (fun k hk => ms_u_n (by omega))) (by rw [(zN_s ln (by decide)).1]; exact nn_nI (by omega) (by decide))
      refine bs_Sp.of (by decide) rfl ?_
      refine bs_iload_n (pc' := 1) dX5_append_0 rfl rfl ?_
      refine bs_if_lt (tgt := 10) (pc' := 4) dX5_append_1 rfl rfl (fun c1 => absurd c1 (Int32.not_lt.mpr hp.1)) (fun _ => ?_)
      refine bs_iload_n (pc' := 5) dX5_append_4 rfl rfl ?_
      refine bs_bipush (v := 127) (pc' := 7) dX5_append_5 (by decide) rfl ?_
      refine bs_icmp_le (tgt := 17) (pc' := 10) dX5_append_7 rfl rfl (fun _ => ?_) (fun c7 => absurd hp.2 c7)
      refine bs_aload_n (pc' := 18) dX5_append_17 rfl rfl rfl ?_
      refine bs_getf (pc' := 21) kf_X5_31 dX5_append_18 R.M rfl rfl ?_
      refine bs_iload_n (pc' := 22) dX5_append_21 rfl rfl ?_
      refine bs_callV (N := mX4_addByte) (pc' := 25) dX5_append_22 km_X5_155 ko_X4_addByte sp R.S1 rfl rfl rfl (by omega) (Nat.le_refl _) (Nat.le_refl _) rfl ?_
      rintro _ h2 ⟨rfl, rfl⟩
      have R : Rep G h0 β (lk (ms_u (ms_u σ 17 (zN (σ 18 0)) p) 18 0 (σ 18 0 + 1)) κ) _ := R.scr (υ' := lk (ms_u (ms_u σ 17 (zN (σ 18 0)) p) 18 0 (σ 18 0 + 1)) κ) (fun k hk => by
        rw [← eu, ms_u_n (by omega), ms_u_n (by omega)])
      refine bs_if_eq (tgt := 38) (pc' := 28) dX5_append_25 rfl rfl (fun c25 => absurd c25 (by decide)) (fun _ => ?_)
      refine bs_aload_n (pc' := 29) dX5_append_28 rfl rfl rfl ?_
      refine bs_getf (pc' := 32) kf_X5_31 dX5_append_29 R.M rfl rfl ?_
      refine bs_getf (pc' := 35) kf_X5_158 dX5_append_32 R.S1 rfl rfl ?_
      refine bs_goto (tgt := 44) dX5_append_35 rfl ?_
      exact bs_iret dX5_append_44 rfl ⟨rfl, β, κ, rfl, P1, R, S⟩
  · rw [if_neg hp]
    refine bs_Sp.of (by decide) rfl ?_
    refine bs_iload_n (pc' := 1) dX5_append_0 rfl rfl ?_
    refine bs_if_lt (tgt := 10) (pc' := 4) dX5_append_1 rfl rfl (fun c1 => ?_) (fun c1 => ?_)
    · refine bs_aload_n (pc' := 11) dX5_append_10 rfl rfl rfl ?_
      refine bs_bipush (v := (-2)) (pc' := 13) dX5_append_11 (by decide) rfl ?_
      refine bs_callV (N := mX5_counted) (pc' := 16) dX5_append_13 km_X5_50 ko_X5_counted (c_counted ⟨β, κ, rfl, P, R, S⟩ h16) R.M rfl rfl rfl (by omega) (Nat.le_refl _) (Nat.le_refl _) rfl ?_
      rintro _ h2 ⟨rfl, C2⟩
      exact bs_iret dX5_append_16 rfl ⟨rfl, C2⟩
    · refine bs_iload_n (pc' := 5) dX5_append_4 rfl rfl ?_
      refine bs_bipush (v := 127) (pc' := 7) dX5_append_5 (by decide) rfl ?_
      refine bs_icmp_le (tgt := 17) (pc' := 10) dX5_append_7 rfl rfl (fun c7 => ?_) (fun c7 => ?_)
      · exact absurd ⟨Int32.not_lt.mp c1, c7⟩ hp
      · refine bs_aload_n (pc' := 11) dX5_append_10 rfl rfl rfl ?_
        refine bs_bipush (v := (-2)) (pc' := 13) dX5_append_11 (by decide) rfl ?_
        refine bs_callV (N := mX5_counted) (pc' := 16) dX5_append_13 km_X5_50 ko_X5_counted (c_counted ⟨β, κ, rfl, P, R, S⟩ h16) R.M rfl rfl rfl (by omega) (Nat.le_refl _) (Nat.le_refl _) rfl ?_
        rintro _ h2 ⟨rfl, C2⟩
        exact bs_iret dX5_append_16 rfl ⟨rfl, C2⟩
theorem p_clearText (C : CR G h0 m ψ B σ h) : bs_Sp G mX5_clearText 0 0 0 [.ref m] h (fun r h' => r = some (.int (s_clt σ).1) ∧ CR G h0 m ψ B (s_clt σ).2 h') := by
  obtain ⟨β, κ, rfl, P, R, S⟩ := C
  have P1 : PI B (ms_u σ 18 0 0) κ := PI_18 P nn_0
  have eu : ms_u (lk σ κ) 18 0 0 = lk (ms_u σ 18 0 0) κ := lk_u (by omega)
  have R1 := R.scr (υ' := lk (ms_u σ 18 0 0) κ) (fun k hk => by rw [← eu, ms_u_n (by omega)])
  refine bs_Sp.of (by decide) rfl ?_
  refine bs_aload_n (pc' := 1) dX5_clearText_0 rfl rfl rfl ?_
  refine bs_getf (pc' := 4) kf_X5_31 dX5_clearText_1 R.M rfl rfl ?_
  refine bs_getf (pc' := 7) kf_X5_158 dX5_clearText_4 R.S1 rfl rfl ?_
  refine bs_istore_n (pc' := 8) (lv' := [(0, _), (1, _)]) dX5_clearText_7 rfl rfl rfl ?_
  refine bs_aload_n (pc' := 9) dX5_clearText_8 rfl rfl rfl ?_
  refine bs_getf (pc' := 12) kf_X5_31 dX5_clearText_9 R.M rfl rfl ?_
  refine bs_iconst (v := 0) (pc' := 13) dX5_clearText_12 (by decide) rfl ?_
  have sk := sk_pt1 (M := mX5_clearText) (G := G) (X := fun _ => True) (h := h) (o := β 0 5 0) (x := β 0 6 0) (l := β 0 7 0) (r := β 0 8 0) (ψ := lk σ κ) (v := 0) (pc' := 16) (d := 0) (bc := 0) (bs := 0) (lv := [(0, .ref (β 0 0 0)), (1, .int (σ 18 0))]) (st := []) (Q := fun r h' => r = some (.int (s_clt σ).1) ∧ CR G h0 (β 0 0 0) ψ B (s_clt σ).2 h') kf_X5_158 dX5_clearText_13 rfl
  rw [R.sk, eu] at sk
  refine sk ?_
  refine bs_iload_n (pc' := 17) dX5_clearText_16 rfl rfl ?_
  exact bs_iret dX5_clearText_17 rfl ⟨rfl, β, κ, rfl, P1, R1, S⟩
def isF (x : Int32) : Bool := decide (x = -2 ∨ x = -3 ∨ x = -4 ∨ x = -5)
theorem s_isFailure {x : Int32} : bs_Sp G mX5_isFailure 0 0 0 [.int x] h (cQ h (bI (isF x))) := by
  refine bs_Sp.of (by decide) rfl ?_
  refine bs_iload_n (pc' := 1) dX5_isFailure_0 rfl rfl ?_
  refine bs_bipush (v := (-2)) (pc' := 3) dX5_isFailure_1 (by decide) rfl ?_
  refine bs_icmp_eq (tgt := 24) (pc' := 6) dX5_isFailure_3 rfl rfl (fun c3 => ?_) (fun c3 => ?_)
  · have hv : isF x = true := by
      rw [isF, decide_eq_true_eq]
      first | exact Or.inl c3 | exact Or.inr (Or.inl c9) | exact Or.inr (Or.inr (Or.inl c15)) | exact Or.inr (Or.inr (Or.inr c21))
    refine bs_iconst (v := 1) (pc' := 25) dX5_isFailure_24 (by decide) rfl ?_
    refine bs_goto (tgt := 29) dX5_isFailure_25 rfl ?_
    exact bs_zret dX5_isFailure_29 rfl (by decide) ⟨by rw [hv]; rfl, rfl⟩
  · refine bs_iload_n (pc' := 7) dX5_isFailure_6 rfl rfl ?_
    refine bs_bipush (v := (-3)) (pc' := 9) dX5_isFailure_7 (by decide) rfl ?_
    refine bs_icmp_eq (tgt := 24) (pc' := 12) dX5_isFailure_9 rfl rfl (fun c9 => ?_) (fun c9 => ?_)
    · have hv : isF x = true := by
        rw [isF, decide_eq_true_eq]
        first | exact Or.inl c3 | exact Or.inr (Or.inl c9) | exact Or.inr (Or.inr (Or.inl c15)) | exact Or.inr (Or.inr (Or.inr c21))
      refine bs_iconst (v := 1) (pc' := 25) dX5_isFailure_24 (by decide) rfl ?_
      refine bs_goto (tgt := 29) dX5_isFailure_25 rfl ?_
      exact bs_zret dX5_isFailure_29 rfl (by decide) ⟨by rw [hv]; rfl, rfl⟩
    · refine bs_iload_n (pc' := 13) dX5_isFailure_12 rfl rfl ?_
      refine bs_bipush (v := (-4)) (pc' := 15) dX5_isFailure_13 (by decide) rfl ?_
      refine bs_icmp_eq (tgt := 24) (pc' := 18) dX5_isFailure_15 rfl rfl (fun c15 => ?_) (fun c15 => ?_)
      · have hv : isF x = true := by
          rw [isF, decide_eq_true_eq]
          first | exact Or.inl c3 | exact Or.inr (Or.inl c9) | exact Or.inr (Or.inr (Or.inl c15)) | exact Or.inr (Or.inr (Or.inr c21))
        refine bs_iconst (v := 1) (pc' := 25) dX5_isFailure_24 (by decide) rfl ?_
        refine bs_goto (tgt := 29) dX5_isFailure_25 rfl ?_
        exact bs_zret dX5_isFailure_29 rfl (by decide) ⟨by rw [hv]; rfl, rfl⟩
      · refine bs_iload_n (pc' := 19) dX5_isFailure_18 rfl rfl ?_
        refine bs_bipush (v := (-5)) (pc' := 21) dX5_isFailure_19 (by decide) rfl ?_
        refine bs_icmp_ne (tgt := 28) (pc' := 24) dX5_isFailure_21 rfl rfl (fun c21 => ?_) (fun c21 => ?_)
        · have hv : isF x = false := by
            rw [isF, decide_eq_false_iff_not]
            rintro (z | z | z | z)
            · exact c3 z
            · exact c9 z
            · exact c15 z
            · exact c21 z
          refine bs_iconst (v := 0) (pc' := 29) dX5_isFailure_28 (by decide) rfl ?_
          exact bs_zret dX5_isFailure_29 rfl (by decide) ⟨by rw [hv]; rfl, rfl⟩
        · have hv : isF x = true := by
            rw [isF, decide_eq_true_eq]
            first | exact Or.inl c3 | exact Or.inr (Or.inl c9) | exact Or.inr (Or.inr (Or.inl c15)) | exact Or.inr (Or.inr (Or.inr c21))
          refine bs_iconst (v := 1) (pc' := 25) dX5_isFailure_24 (by decide) rfl ?_
          refine bs_goto (tgt := 29) dX5_isFailure_25 rfl ?_
          exact bs_zret dX5_isFailure_29 rfl (by decide) ⟨by rw [hv]; rfl, rfl⟩
def k_cmd (σ : MS) (c x y z : Int32) : Int32 × MS := if c = 97 then k_alloc σ x else if c = 114 then k_read σ x y else if c = 119 then k_write σ x y z else if c = 109 then k_reb σ x 0 y z 0 else if c = 115 then k_reb σ x 1 y z 0 else if c = 112 then k_reb σ x 2 y z 0 else if c = 102 then k_free σ x else if c = 101 then k_enter σ else k_leave σ
theorem fin_cmd {c x y z : Int32} (P : PI B σ κ) : s_cmd σ c x y z = fin (k_cmd σ c x y z) := by
  unfold s_cmd k_cmd
  split
  · exact fin_alloc P
  · split
    · exact fin_read P
    · split
      · exact fin_write P
      · split
        · exact fin_reb P
        · split
          · exact fin_reb P
          · split
            · exact fin_reb P
            · split
              · exact fin_free P
              · split
                · exact fin_enter P
                · exact fin_leave P
theorem rs_argument {k j n : Nat} (R : Rep G h0 β (lk σ κ) h) (en : κ 21 0 = nI n) (hk : k < n) (h60 : n ≤ 60) (hj : j < 3) : bs_Sp G mX4_argument 0 0 0 [.ref (β 0 5 0), .int (nI k), .int (nI j)] h (cQ h (κ 20 (3 * k + j))) := by
  have sp := ss_argument (G := G) (h := h) (ψ := lk σ κ) R.d5 (by rw [lk_o (k := 21) (by decide)]; exact en) hk h60 hj
  unfold sSp sQ at sp
  rw [R.sk, lk_o (k := 20) (by decide)] at sp
  exact sp
theorem rs_letter {k n : Nat} (R : Rep G h0 β (lk σ κ) h) (en : κ 21 0 = nI n) (hk : k < n) (h60 : n ≤ 60) : bs_Sp G mX4_letter 0 0 0 [.ref (β 0 5 0), .int (nI k)] h (cQ h (κ 19 k)) := by
  have sp := ss_letter (G := G) (h := h) (ψ := lk σ κ) R.d5 (by rw [lk_o (k := 21) (by decide)]; exact en) hk h60
  unfold sSp sQ at sp
  rw [R.sk, lk_o (k := 19) (by decide)] at sp
  exact sp
theorem j_cmd {k c x y z : Int32} (C : CR G h0 m ψ B σ h) (hB : B < 1000000) (hv : mny c ≠ none) : bs_B G (fun _ => True) mX5_performCommand 6 (34 * (zN ((k_cmd σ c x y z).2 0 0) - zN (σ 0 0)) + 1) (339 * (zN ((k_cmd σ c x y z).2 0 0) - zN (σ 0 0)) + 2) h 39 [(0, .ref m), (1, .int k), (2, .int x), (3, .int y), (4, .int z)] [.int c] (fun r h' => r = some (.int (k_cmd σ c x y z).1) ∧ CR G h0 m ψ (B + 1) (k_cmd σ c x y z).2 h') := by
  obtain ⟨fs, hm⟩ := C.M
  by_cases hr : c.toInt < 97 ∨ 119 < c.toInt
  · exact absurd (mny_out hr) hv
  · obtain ⟨j, hj, rfl⟩ := sw_in hr
    match j, hj with
    | 0, _ =>
      refine bs_switchIn (off := 105) (tgt := 144) dX5_performCommand_39 (by decide) (by decide) (by decide) rfl ?_
      have e : k_cmd σ (nI (97 + 0)) x y z = k_alloc σ x := by
        unfold k_cmd
        rw [if_pos (by decide)]
      rw [e]
      refine bs_aload_n (pc' := 145) dX5_performCommand_144 rfl rfl rfl ?_
      refine bs_iload_n (pc' := 146) dX5_performCommand_145 rfl rfl ?_
      refine bs_callV (N := mX5_performAllocate) (pc' := 149) dX5_performCommand_146 km_X5_46 ko_X5_performAllocate (r_performAllocate C) hm rfl rfl rfl (by omega) (Nat.le_of_eq (Nat.zero_add _)) (Nat.le_of_eq (Nat.zero_add _)) rfl ?_
      rintro _ h1 ⟨rfl, C1⟩
      exact bs_iret dX5_performCommand_149 rfl ⟨rfl, C1.up (Nat.le_succ _)⟩
    | 1, _ => exact absurd (by decide) hv
    | 2, _ => exact absurd (by decide) hv
    | 3, _ => exact absurd (by decide) hv
    | 4, _ =>
      refine bs_switchIn (off := 166) (tgt := 205) dX5_performCommand_39 (by decide) (by decide) (by decide) rfl ?_
      have e : k_cmd σ (nI (97 + 4)) x y z = k_enter σ := by
        unfold k_cmd
        rw [if_neg (by decide), if_neg (by decide), if_neg (by decide), if_neg (by decide), if_neg (by decide), if_neg (by decide), if_neg (by decide), if_pos (by decide)]
      rw [e]
      refine bs_aload_n (pc' := 206) dX5_performCommand_205 rfl rfl rfl ?_
      refine bs_callV (N := mX5_performEnter) (pc' := 209) dX5_performCommand_206 km_X5_68 ko_X5_performEnter (c_performEnter C hB) hm rfl rfl rfl (by omega) (Nat.le_refl _) (Nat.le_refl _) rfl ?_
      rintro _ h1 ⟨rfl, C1⟩
      exact bs_iret dX5_performCommand_209 rfl ⟨rfl, C1⟩
    | 5, _ =>
      refine bs_switchIn (off := 160) (tgt := 199) dX5_performCommand_39 (by decide) (by decide) (by decide) rfl ?_
      have e : k_cmd σ (nI (97 + 5)) x y z = k_free σ x := by
        unfold k_cmd
        rw [if_neg (by decide), if_neg (by decide), if_neg (by decide), if_neg (by decide), if_neg (by decide), if_neg (by decide), if_pos (by decide)]
      rw [e]
      refine bs_aload_n (pc' := 200) dX5_performCommand_199 rfl rfl rfl ?_
      refine bs_iload_n (pc' := 201) dX5_performCommand_200 rfl rfl ?_
      refine bs_callV (N := mX5_performFree) (pc' := 204) dX5_performCommand_201 km_X5_65 ko_X5_performFree (c_performFree C) hm rfl rfl rfl (by omega) (Nat.le_refl _) (Nat.le_refl _) rfl ?_
      rintro _ h1 ⟨rfl, C1⟩
      exact bs_iret dX5_performCommand_204 rfl ⟨rfl, C1.up (Nat.le_succ _)⟩
    | 6, _ => exact absurd (by decide) hv
    | 7, _ => exact absurd (by decide) hv
    | 8, _ => exact absurd (by decide) hv
    | 9, _ => exact absurd (by decide) hv
    | 10, _ => exact absurd (by decide) hv
    | 11, _ =>
      refine bs_switchIn (off := 171) (tgt := 210) dX5_performCommand_39 (by decide) (by decide) (by decide) rfl ?_
      have e : k_cmd σ (nI (97 + 11)) x y z = k_leave σ := by
        unfold k_cmd
        rw [if_neg (by decide), if_neg (by decide), if_neg (by decide), if_neg (by decide), if_neg (by decide), if_neg (by decide), if_neg (by decide), if_neg (by decide)]
      rw [e]
      refine bs_aload_n (pc' := 211) dX5_performCommand_210 rfl rfl rfl ?_
      refine bs_callV (N := mX5_performLeave) (pc' := 214) dX5_performCommand_211 km_X5_72 ko_X5_performLeave (c_performLeave C) hm rfl rfl rfl (by omega) (Nat.le_refl _) (Nat.le_refl _) rfl ?_
      rintro _ h1 ⟨rfl, C1⟩
      exact bs_iret dX5_performCommand_214 rfl ⟨rfl, C1.up (Nat.le_succ _)⟩
    | 12, _ =>
      refine bs_switchIn (off := 127) (tgt := 166) dX5_performCommand_39 (by decide) (by decide) (by decide) rfl ?_
      have e : k_cmd σ (nI (97 + 12)) x y z = k_reb σ x 0 y z 0 := by
        unfold k_cmd
        rw [if_neg (by decide), if_neg (by decide), if_neg (by decide), if_pos (by decide)]
      rw [e]
      refine bs_aload_n (pc' := 167) dX5_performCommand_166 rfl rfl rfl ?_
      refine bs_iload_n (pc' := 168) dX5_performCommand_167 rfl rfl ?_
      refine bs_iconst (v := 0) (pc' := 169) dX5_performCommand_168 (by decide) rfl ?_
      refine bs_iload_n (pc' := 170) dX5_performCommand_169 rfl rfl ?_
      refine bs_iload (pc' := 172) dX5_performCommand_170 rfl rfl ?_
      refine bs_iconst (v := 0) (pc' := 173) dX5_performCommand_172 (by decide) rfl ?_
      refine bs_callV (N := mX5_performReborrow) (pc' := 176) dX5_performCommand_173 km_X5_61 ko_X5_performReborrow (r_performReborrow C) hm rfl rfl rfl (by omega) (Nat.le_refl _) (Nat.le_refl _) rfl ?_
      rintro _ h1 ⟨rfl, C1⟩
      exact bs_iret dX5_performCommand_176 rfl ⟨rfl, C1.up (Nat.le_succ _)⟩
    | 13, _ => exact absurd (by decide) hv
    | 14, _ => exact absurd (by decide) hv
    | 15, _ =>
      refine bs_switchIn (off := 149) (tgt := 188) dX5_performCommand_39 (by decide) (by decide) (by decide) rfl ?_
      have e : k_cmd σ (nI (97 + 15)) x y z = k_reb σ x 2 y z 0 := by
        unfold k_cmd
        rw [if_neg (by decide), if_neg (by decide), if_neg (by decide), if_neg (by decide), if_neg (by decide), if_pos (by decide)]
      rw [e]
      refine bs_aload_n (pc' := 189) dX5_performCommand_188 rfl rfl rfl ?_
      refine bs_iload_n (pc' := 190) dX5_performCommand_189 rfl rfl ?_
      refine bs_iconst (v := 2) (pc' := 191) dX5_performCommand_190 (by decide) rfl ?_
      refine bs_iload_n (pc' := 192) dX5_performCommand_191 rfl rfl ?_
      refine bs_iload (pc' := 194) dX5_performCommand_192 rfl rfl ?_
      refine bs_iconst (v := 0) (pc' := 195) dX5_performCommand_194 (by decide) rfl ?_
      refine bs_callV (N := mX5_performReborrow) (pc' := 198) dX5_performCommand_195 km_X5_61 ko_X5_performReborrow (r_performReborrow C) hm rfl rfl rfl (by omega) (Nat.le_refl _) (Nat.le_refl _) rfl ?_
      rintro _ h1 ⟨rfl, C1⟩
      exact bs_iret dX5_performCommand_198 rfl ⟨rfl, C1.up (Nat.le_succ _)⟩
    | 16, _ => exact absurd (by decide) hv
    | 17, _ =>
      refine bs_switchIn (off := 111) (tgt := 150) dX5_performCommand_39 (by decide) (by decide) (by decide) rfl ?_
      have e : k_cmd σ (nI (97 + 17)) x y z = k_read σ x y := by
        unfold k_cmd
        rw [if_neg (by decide), if_pos (by decide)]
      rw [e]
      refine bs_aload_n (pc' := 151) dX5_performCommand_150 rfl rfl rfl ?_
      refine bs_iload_n (pc' := 152) dX5_performCommand_151 rfl rfl ?_
      refine bs_iload_n (pc' := 153) dX5_performCommand_152 rfl rfl ?_
      refine bs_callV (N := mX5_performRead) (pc' := 156) dX5_performCommand_153 km_X5_53 ko_X5_performRead (c_performRead C) hm rfl rfl rfl (by omega) (Nat.le_refl _) (Nat.le_refl _) rfl ?_
      rintro _ h1 ⟨rfl, C1⟩
      exact bs_iret dX5_performCommand_156 rfl ⟨rfl, C1.up (Nat.le_succ _)⟩
    | 18, _ =>
      refine bs_switchIn (off := 138) (tgt := 177) dX5_performCommand_39 (by decide) (by decide) (by decide) rfl ?_
      have e : k_cmd σ (nI (97 + 18)) x y z = k_reb σ x 1 y z 0 := by
        unfold k_cmd
        rw [if_neg (by decide), if_neg (by decide), if_neg (by decide), if_neg (by decide), if_pos (by decide)]
      rw [e]
      refine bs_aload_n (pc' := 178) dX5_performCommand_177 rfl rfl rfl ?_
      refine bs_iload_n (pc' := 179) dX5_performCommand_178 rfl rfl ?_
      refine bs_iconst (v := 1) (pc' := 180) dX5_performCommand_179 (by decide) rfl ?_
      refine bs_iload_n (pc' := 181) dX5_performCommand_180 rfl rfl ?_
      refine bs_iload (pc' := 183) dX5_performCommand_181 rfl rfl ?_
      refine bs_iconst (v := 0) (pc' := 184) dX5_performCommand_183 (by decide) rfl ?_
      refine bs_callV (N := mX5_performReborrow) (pc' := 187) dX5_performCommand_184 km_X5_61 ko_X5_performReborrow (r_performReborrow C) hm rfl rfl rfl (by omega) (Nat.le_refl _) (Nat.le_refl _) rfl ?_
      rintro _ h1 ⟨rfl, C1⟩
      exact bs_iret dX5_performCommand_187 rfl ⟨rfl, C1.up (Nat.le_succ _)⟩
    | 19, _ => exact absurd (by decide) hv
    | 20, _ => exact absurd (by decide) hv
    | 21, _ => exact absurd (by decide) hv
    | 22, _ =>
      refine bs_switchIn (off := 118) (tgt := 157) dX5_performCommand_39 (by decide) (by decide) (by decide) rfl ?_
      have e : k_cmd σ (nI (97 + 22)) x y z = k_write σ x y z := by
        unfold k_cmd
        rw [if_neg (by decide), if_neg (by decide), if_pos (by decide)]
      rw [e]
      refine bs_aload_n (pc' := 158) dX5_performCommand_157 rfl rfl rfl ?_
      refine bs_iload_n (pc' := 159) dX5_performCommand_158 rfl rfl ?_
      refine bs_iload_n (pc' := 160) dX5_performCommand_159 rfl rfl ?_
      refine bs_iload (pc' := 162) dX5_performCommand_160 rfl rfl ?_
      refine bs_callV (N := mX5_performWrite) (pc' := 165) dX5_performCommand_162 km_X5_57 ko_X5_performWrite (c_performWrite C) hm rfl rfl rfl (by omega) (Nat.le_refl _) (Nat.le_refl _) rfl ?_
      rintro _ h1 ⟨rfl, C1⟩
      exact bs_iret dX5_performCommand_165 rfl ⟨rfl, C1.up (Nat.le_succ _)⟩
    | j + 23, hj => exact absurd hj (by omega)
theorem c_cmd0 {k n : Nat} (C : CR G h0 m ψ B σ h) (hB : B < 1000000) (en : ψ 21 0 = nI n) (hk : k < n) (h60 : n ≤ 60) (hv : mny (ψ 19 k) ≠ none) : bs_Sp G mX5_performCommand 6 (34 * (zN ((k_cmd σ (ψ 19 k) (ψ 20 (3 * k)) (ψ 20 (3 * k + 1)) (ψ 20 (3 * k + 2))).2 0 0) - zN (σ 0 0)) + 1) (339 * (zN ((k_cmd σ (ψ 19 k) (ψ 20 (3 * k)) (ψ 20 (3 * k + 1)) (ψ 20 (3 * k + 2))).2 0 0) - zN (σ 0 0)) + 2) [.ref m, .int (nI k)] h (fun r h' => r = some (.int (k_cmd σ (ψ 19 k) (ψ 20 (3 * k)) (ψ 20 (3 * k + 1)) (ψ 20 (3 * k + 2))).1) ∧ CR G h0 m ψ (B + 1) (k_cmd σ (ψ 19 k) (ψ 20 (3 * k)) (ψ 20 (3 * k + 1)) (ψ 20 (3 * k + 2))).2 h') := by
  have jc := j_cmd (k := nI k) (c := ψ 19 k) (x := ψ 20 (3 * k)) (y := ψ 20 (3 * k + 1)) (z := ψ 20 (3 * k + 2)) C hB hv
  obtain ⟨β, κ, rfl, P, R, S⟩ := C
  have e19 := S 19 (by decide) (by decide)
  have e20 := S 20 (by decide) (by decide)
  have k21 : κ 21 0 = nI n := by rw [S 21 (by decide) (by decide)]; exact en
  refine bs_Sp.of (by decide) rfl ?_
  refine bs_aload_n (pc' := 1) dX5_performCommand_0 rfl rfl rfl ?_
  refine bs_getf (pc' := 4) kf_X5_31 dX5_performCommand_1 R.M rfl rfl ?_
  refine bs_iload_n (pc' := 5) dX5_performCommand_4 rfl rfl ?_
  refine bs_iconst (v := 0) (pc' := 6) dX5_performCommand_5 (by decide) rfl ?_
  refine bs_callV (N := mX4_argument) (pc' := 9) dX5_performCommand_6 km_X5_247 ko_X4_argument (rs_argument (j := 0) R k21 hk h60 (by decide)) R.S1 rfl rfl rfl (by omega) (Nat.le_refl _) (Nat.le_refl _) rfl ?_
  rintro _ _ ⟨rfl, rfl⟩
  refine bs_istore_n (pc' := 10) (lv' := [(0, _), (1, _), (2, _)]) dX5_performCommand_9 rfl rfl rfl ?_
  refine bs_aload_n (pc' := 11) dX5_performCommand_10 rfl rfl rfl ?_
  refine bs_getf (pc' := 14) kf_X5_31 dX5_performCommand_11 R.M rfl rfl ?_
  refine bs_iload_n (pc' := 15) dX5_performCommand_14 rfl rfl ?_
  refine bs_iconst (v := 1) (pc' := 16) dX5_performCommand_15 (by decide) rfl ?_
  refine bs_callV (N := mX4_argument) (pc' := 19) dX5_performCommand_16 km_X5_247 ko_X4_argument (rs_argument (j := 1) R k21 hk h60 (by decide)) R.S1 rfl rfl rfl (by omega) (Nat.le_refl _) (Nat.le_refl _) rfl ?_
  rintro _ _ ⟨rfl, rfl⟩
  refine bs_istore_n (pc' := 20) (lv' := [(0, _), (1, _), (2, _), (3, _)]) dX5_performCommand_19 rfl rfl rfl ?_
  refine bs_aload_n (pc' := 21) dX5_performCommand_20 rfl rfl rfl ?_
  refine bs_getf (pc' := 24) kf_X5_31 dX5_performCommand_21 R.M rfl rfl ?_
  refine bs_iload_n (pc' := 25) dX5_performCommand_24 rfl rfl ?_
  refine bs_iconst (v := 2) (pc' := 26) dX5_performCommand_25 (by decide) rfl ?_
  refine bs_callV (N := mX4_argument) (pc' := 29) dX5_performCommand_26 km_X5_247 ko_X4_argument (rs_argument (j := 2) R k21 hk h60 (by decide)) R.S1 rfl rfl rfl (by omega) (Nat.le_refl _) (Nat.le_refl _) rfl ?_
  rintro _ _ ⟨rfl, rfl⟩
  refine bs_istore (pc' := 31) (lv' := [(0, _), (1, _), (2, _), (3, _), (4, _)]) dX5_performCommand_29 rfl rfl rfl ?_
  refine bs_aload_n (pc' := 32) dX5_performCommand_31 rfl rfl rfl ?_
  refine bs_getf (pc' := 35) kf_X5_31 dX5_performCommand_32 R.M rfl rfl ?_
  refine bs_iload_n (pc' := 36) dX5_performCommand_35 rfl rfl ?_
  refine bs_callV (N := mX4_letter) (pc' := 39) dX5_performCommand_36 km_X5_250 ko_X4_letter (rs_letter R k21 hk h60) R.S1 rfl rfl rfl (by omega) (Nat.le_refl _) (Nat.le_refl _) rfl ?_
  rintro _ _ ⟨rfl, rfl⟩
  rw [← e19, ← e20] at jc ⊢
  exact jc
end Cmd
