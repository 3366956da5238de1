section Alc3
variable {G : GG} {h0 h : Hp} {B m : Nat} {σ κ ψ : MS}
/-- the state with a new allocation, no cell of it made yet -/
def al0 (σ : MS) (n : Nat) : MS := ms_u (ms_u σ 0 0 (σ 0 0 + 1)) 1 (zN (σ 0 0)) (nI n)
theorem al0_n {n k : Nat} (h0 : k ≠ 0) (h1 : k ≠ 1) : al0 σ n k = σ k := by
  unfold al0
  rw [ms_u_n h1, ms_u_n h0]
theorem al0_0 {n : Nat} : al0 σ n 0 0 = σ 0 0 + 1 := rfl
theorem al0_1 {n : Nat} : al0 σ n 1 = upd (σ 1) (zN (σ 0 0)) (nI n) := rfl
theorem PI_al0 {n : Nat} (P : PI B σ κ) (hA : zN (σ 0 0) < 10) (h1 : 1 ≤ n) (h8 : n ≤ 8) : PI B (al0 σ n) κ := by
  have hI := P.inv
  obtain ⟨e1, e2⟩ := zN_s hI.nA (by decide)
  have hzn : zN (nI n) = n := zN_nI (by omega)
  have z0 : zN (al0 σ n 0 0) = zN (σ 0 0) + 1 := e2
  have hb : mInv (al0 σ n) := by
    unfold mInv
    rw [al0_0, al0_1, e2, al0_n (k := 8) (by decide) (by decide), al0_n (k := 9) (by decide) (by decide), al0_n (k := 11) (by decide) (by decide), al0_n (k := 18) (by decide) (by decide), al0_n (k := 4) (by decide) (by decide)]
    refine ⟨by rw [e1]; exact nn_nI (by omega) (by decide), hI.nP, hI.dp, hI.ln, fun a ha => ?_, fun p hp => ?_, fun c hc => hI.sz hc, fun c hc1 hc => hI.s0 (by omega) hc⟩
    · unfold upd
      by_cases q : a = zN (σ 0 0)
      · rw [if_pos q]
        exact ⟨nn_nI h8 (by decide), by rw [hzn]; exact h1⟩
      · rw [if_neg q]
        exact hI.cl (by omega)
    · have := hI.ow (p := p) hp
      exact ⟨this.1, Nat.lt_succ_of_lt this.2⟩
  have e : ∀ k, k ≠ 0 → k ≠ 1 → al0 σ n k = σ k := fun k a b => al0_n a b
  refine ⟨hb, ?_, ?_, ?_, ?_, ?_, ?_, P.lat, ?_, P.pro, ?_⟩
  · rw [e 3 (by decide) (by decide)]; exact P.val
  · rw [e 2 (by decide) (by decide)]; exact P.frd
  · rw [e 6 (by decide) (by decide)]; exact P.prm
  · rw [e 2 (by decide) (by decide), z0]; exact fun a q1 q2 => P.fr2 a (by omega) q2
  · rw [e 3 (by decide) (by decide), z0]; exact fun a q1 q2 => P.fr3 a (by omega) q2
  · rw [e 5 (by decide) (by decide), e 6 (by decide) (by decide), e 7 (by decide) (by decide), z0]; exact fun a q1 q2 => P.fr5 a (by omega) q2
  · rw [e 11 (by decide) (by decide)]; exact P.ser
  · rw [e 11 (by decide) (by decide), e 7 (by decide) (by decide)]; exact P.grd
theorem PI_nwP {a : Nat} {o : Int32} (P : PI B σ κ) (h60 : zN (σ 8 0) < 60) (ha : a < zN (σ 0 0)) : PI B (nwP σ (nI a) o) κ := by
  have e : ∀ k, ¬ (k = 8 ∨ k = 9 ∨ k = 10) → nwP σ (nI a) o k = σ k := fun k hk => nwP_n hk
  refine ⟨mInv_nwP P.inv h60 ha, ?_, ?_, ?_, ?_, ?_, ?_, P.lat, ?_, P.pro, ?_⟩
  · rw [e 3 (by decide)]; exact P.val
  · rw [e 2 (by decide)]; exact P.frd
  · rw [e 6 (by decide)]; exact P.prm
  · rw [e 2 (by decide), e 0 (by decide)]; exact P.fr2
  · rw [e 3 (by decide), e 0 (by decide)]; exact P.fr3
  · rw [e 5 (by decide), e 6 (by decide), e 7 (by decide), e 0 (by decide)]; exact P.fr5
  · rw [e 11 (by decide)]; exact P.ser
  · rw [e 11 (by decide), e 7 (by decide)]; exact P.grd
theorem r_performAllocate {x : Int32} (C : CR G h0 m ψ B σ h) : bs_Sp G mX5_performAllocate 3 (34 * (zN ((k_alloc σ x).2 0 0) - zN (σ 0 0)) + 1) (339 * (zN ((k_alloc σ x).2 0 0) - zN (σ 0 0)) + 2) [.ref m, .int x] h (fun v h' => v = some (.int (k_alloc σ x).1) ∧ CR G h0 m ψ B (k_alloc σ x).2 h') := by
  obtain ⟨β, κ, rfl, P, R, S⟩ := C
  by_cases hx : 1 ≤ x ∧ x ≤ 8
  · by_cases hf : σ 0 0 = 10 ∨ σ 8 0 = 60
    · have ek : k_alloc σ x = (-4, σ) := by
        unfold k_alloc
        rw [if_pos hx, if_pos hf]
      rw [ek]
      refine bs_Sp.of (by decide) rfl ?_
      refine bs_iload_n (pc' := 1) dX5_performAllocate_0 rfl rfl ?_
      refine bs_iconst (v := 1) (pc' := 2) dX5_performAllocate_1 (by decide) rfl ?_
      refine bs_icmp_lt (tgt := 11) (pc' := 5) dX5_performAllocate_2 rfl rfl (fun c2 => absurd c2 (Int32.not_lt.mpr hx.1)) (fun _ => ?_)
      refine bs_iload_n (pc' := 6) dX5_performAllocate_5 rfl rfl ?_
      refine bs_bipush (v := 8) (pc' := 8) dX5_performAllocate_6 (by decide) rfl ?_
      refine bs_icmp_le (tgt := 14) (pc' := 11) dX5_performAllocate_8 rfl rfl (fun _ => ?_) (fun c8 => absurd hx.2 c8)
      refine bs_aload_n (pc' := 15) dX5_performAllocate_14 rfl rfl rfl ?_
      refine bs_getf (pc' := 18) kf_X5_179 dX5_performAllocate_15 R.M rfl rfl ?_
      refine bs_bipush (v := 10) (pc' := 20) dX5_performAllocate_18 (by decide) rfl ?_
      refine bs_icmp_ge (tgt := 32) (pc' := 23) dX5_performAllocate_20 rfl rfl (fun c20 => ?_) (fun c20 => ?_)
      · refine bs_bipush (v := (-4)) (pc' := 34) dX5_performAllocate_32 (by decide) rfl ?_
        exact bs_iret dX5_performAllocate_34 rfl ⟨rfl, β, κ, rfl, P, R, S⟩
      · refine bs_aload_n (pc' := 24) dX5_performAllocate_23 rfl rfl rfl ?_
        refine bs_getf (pc' := 27) kf_X5_146 dX5_performAllocate_24 R.M rfl rfl ?_
        refine bs_bipush (v := 60) (pc' := 29) dX5_performAllocate_27 (by decide) rfl ?_
        refine bs_icmp_lt (tgt := 35) (pc' := 32) dX5_performAllocate_29 rfl rfl (fun c29 => ?_) (fun c29 => ?_)
        · exact hf.elim (fun e => absurd (show (10 : Int32) ≤ σ 0 0 by rw [e]; decide) c20) (fun e => absurd c29 (by rw [e]; decide))
        · refine bs_bipush (v := (-4)) (pc' := 34) dX5_performAllocate_32 (by decide) rfl ?_
          exact bs_iret dX5_performAllocate_34 rfl ⟨rfl, β, κ, rfl, P, R, S⟩
    · obtain ⟨hA, hP⟩ := alc_pre P.inv hf
      obtain ⟨n, h1, h8, rfl⟩ := m18 hx
      have hzn : zN (nI n) = n := zN_nI (by omega)
      obtain ⟨e1, e2⟩ := zN_s P.inv.nA (by decide)
      have P0 := PI_al0 P hA h1 h8
      obtain ⟨P1, q1, q2, q3⟩ := PI_inl (p := σ 8 0) (a := zN (σ 0 0)) P0 e2.symm (fun k hk => by rw [al0_n (by decide) (by decide)]; exact P.inv.s0 (by omega) (by omega)) (fun i i1 i2 => by
        rw [al0_n (by decide) (by decide), al0_n (by decide) (by decide)]
        obtain ⟨w1, w2, w3, w4⟩ := P.fr5 i i1 (by omega)
        exact ⟨w1, w2, w4⟩) n h8
      have q8 : inl (al0 σ n) (zN (σ 0 0)) (σ 8 0) n 8 = σ 8 := by rw [q1 8 (by decide), al0_n (by decide) (by decide)]
      have q0 : inl (al0 σ n) (zN (σ 0 0)) (σ 8 0) n 0 0 = σ 0 0 + 1 := by rw [q1 0 (by decide)]; rfl
      have ek : k_alloc σ (nI n) = (σ 8 0, nwP (inl (al0 σ n) (zN (σ 0 0)) (σ 8 0) n) (nI (zN (σ 0 0))) (-1)) := by
        unfold k_alloc alc
        rw [if_pos hx, if_neg hf, ← P.inv.nA.1, hzn, ← inl_nwP]
        rfl
      have P2 := PI_nwP (o := -1) (a := zN (σ 0 0)) P1 (by rw [q8]; exact hP) (by rw [q0, e2]; omega)
      have eb : zN (nwP (inl (al0 σ n) (zN (σ 0 0)) (σ 8 0) n) (nI (zN (σ 0 0))) (-1) 0 0) - zN (σ 0 0) = 1 := by
        rw [nwP_n (by decide), q0, e2]
        omega
      rw [ek, show (σ 8 0, nwP (inl (al0 σ n) (zN (σ 0 0)) (σ 8 0) n) (nI (zN (σ 0 0))) (-1)).2 = nwP (inl (al0 σ n) (zN (σ 0 0)) (σ 8 0) n) (nI (zN (σ 0 0))) (-1) from rfl, eb]
      have hin : vp_in (σ 0 0) 10 := by
        rw [P.inv.nA.1]
        exact vp_in_nI hA (by decide)
      have n10 : β 0 1 0 ≠ β 0 0 0 := R.ne (lv0 rfl) (lv0 rfl) (by omega)
      refine bs_Sp.of (by decide) rfl ?_
      refine bs_iload_n (pc' := 1) dX5_performAllocate_0 rfl rfl ?_
      refine bs_iconst (v := 1) (pc' := 2) dX5_performAllocate_1 (by decide) rfl ?_
      refine bs_icmp_lt (tgt := 11) (pc' := 5) dX5_performAllocate_2 rfl rfl (fun c2 => absurd c2 (Int32.not_lt.mpr hx.1)) (fun _ => ?_)
      refine bs_iload_n (pc' := 6) dX5_performAllocate_5 rfl rfl ?_
      refine bs_bipush (v := 8) (pc' := 8) dX5_performAllocate_6 (by decide) rfl ?_
      refine bs_icmp_le (tgt := 14) (pc' := 11) dX5_performAllocate_8 rfl rfl (fun _ => ?_) (fun c8 => absurd hx.2 c8)
      refine bs_aload_n (pc' := 15) dX5_performAllocate_14 rfl rfl rfl ?_
      refine bs_getf (pc' := 18) kf_X5_179 dX5_performAllocate_15 R.M rfl rfl ?_
      refine bs_bipush (v := 10) (pc' := 20) dX5_performAllocate_18 (by decide) rfl ?_
      refine bs_icmp_ge (tgt := 32) (pc' := 23) dX5_performAllocate_20 rfl rfl (fun c20 => absurd c20 (by rw [P.inv.nA.1, Int32.not_le]; exact nI_lt hA (by decide))) (fun _ => ?_)
      refine bs_aload_n (pc' := 24) dX5_performAllocate_23 rfl rfl rfl ?_
      refine bs_getf (pc' := 27) kf_X5_146 dX5_performAllocate_24 R.M rfl rfl ?_
      refine bs_bipush (v := 60) (pc' := 29) dX5_performAllocate_27 (by decide) rfl ?_
      refine bs_icmp_lt (tgt := 35) (pc' := 32) dX5_performAllocate_29 rfl rfl (fun _ => ?_) (fun c29 => absurd (by rw [P.inv.nP.1]; exact nI_lt hP (by decide)) c29)
      refine bs_new (bc' := 34) (bs' := 338) (fs := [.int 0, .null, .int 0]) (pc' := 38) dX5_performAllocate_35 cl_0 kk_X5_9 kin_0 ko_X0_init.2.1 (fun j hj => by
        have : j = 0 ∨ j = 1 ∨ j = 2 := by omega
        rcases this with rfl | rfl | rfl <;> rfl) (by decide) (by decide) rfl (fun o ho => ?_)
      have mo : β 0 0 0 ≠ o := R.some (lv0 rfl) ho
      refine bs_dup (pc' := 39) dX5_performAllocate_38 rfl rfl ?_
      refine bs_aload_n (pc' := 40) dX5_performAllocate_39 rfl rfl rfl ?_
      refine bs_getf (pc' := 43) kf_X5_179 dX5_performAllocate_40 ((bs_set_ne mo).trans R.M) rfl rfl ?_
      refine bs_iload_n (pc' := 44) dX5_performAllocate_43 rfl rfl ?_
      refine bs_aload_n (pc' := 45) dX5_performAllocate_44 rfl rfl rfl ?_
      refine bs_getf (pc' := 48) kf_X5_146 dX5_performAllocate_45 ((bs_set_ne mo).trans R.M) rfl rfl ?_
      refine bs_callI (N := mX0_init) (pc' := 51) dX5_performAllocate_48 km_X5_195 ko_X0_init (s0_init (m := n) bs_set_self h8) rfl rfl rfl (by omega) (show 1 + (1 + 4 * n) ≤ 34 by omega) (show 2 + (n + 41 * n) ≤ 338 by omega) rfl ?_
      rintro _ h1 ⟨rfl, s, γ, A⟩
      have A0 : AI G (bs_set h o (.inr (0, [.int 0, .null, .int 0]))) o s (nI (zN (σ 0 0))) (σ 8 0) n n γ h1 := by rw [← P.inv.nA.1]; exact A
      have hs : h s = none := by have := A.2.1; rw [bs_set_ne A.1] at this; exact this
      have old : ∀ k, Nat.blt k 10 = true → h1 (β 0 k 0) = h (β 0 k 0) := fun k hk => by
        have b1 : β 0 k 0 ≠ o := R.some (lv0 hk) ho
        rw [A.2.2.2.2.2.2 _ b1 (R.some (lv0 hk) hs) (fun k' r' y1 y2 w => by
          have y3 := (A.2.2.2.2.1 k' r' y1 y2)
          rw [bs_set_ne y3.2.1] at y3
          exact R.some (lv0 hk) y3.1 w.symm), bs_set_ne b1]
      have M1 := (old 0 rfl).trans R.M
      have A1 := (old 1 rfl).trans R.aA
      refine bs_astore_n (pc' := 52) (lv' := [(0, _), (1, _), (2, _)]) dX5_performAllocate_51 rfl rfl rfl rfl ?_
      refine bs_aload_n (pc' := 53) dX5_performAllocate_52 rfl rfl rfl ?_
      refine bs_getf (pc' := 56) kf_X5_11 dX5_performAllocate_53 M1 rfl rfl ?_
      refine bs_aload_n (pc' := 57) dX5_performAllocate_56 rfl rfl rfl ?_
      refine bs_getf (pc' := 60) kf_X5_179 dX5_performAllocate_57 M1 rfl rfl ?_
      refine bs_aload_n (pc' := 61) dX5_performAllocate_60 rfl rfl rfl ?_
      refine bs_aast (t := 2) (n := 10) (pc' := 62) dX5_performAllocate_61 A1 (by decide) A.2.2.1 rfl rfl hin rfl ?_
      refine bs_aload_n (pc' := 63) dX5_performAllocate_62 rfl rfl rfl ?_
      refine bs_dup (pc' := 64) dX5_performAllocate_63 rfl rfl ?_
      refine bs_getf (pc' := 67) kf_X5_179 dX5_performAllocate_64 ((bs_set_ne n10.symm).trans M1) rfl rfl ?_
      refine bs_iconst (v := 1) (pc' := 68) dX5_performAllocate_67 (by decide) rfl ?_
      refine bs_iadd (pc' := 69) dX5_performAllocate_68 rfl ?_
      refine bs_putf (pc' := 72) kf_X5_179 dX5_performAllocate_69 ((bs_set_ne n10.symm).trans M1) rfl rfl rfl rfl ?_
      generalize hg : bs_set (bs_set h1 (β 0 1 0) _) (β 0 0 0) _ = hX
      have R2 : Rep G h0 (adA β (zN (σ 0 0)) o s γ) (lk (inl (al0 σ n) (zN (σ 0 0)) (σ 8 0) n) κ) hX := by
        have R3 := R.addA (υ' := lk (inl (al0 σ n) (zN (σ 0 0)) (σ 8 0) n) κ) rfl (by rw [lk_s (k := 0) (by decide), q0]; exact e2) h8 (fun k hk => by
          by_cases w : k = 7 ∨ k = 16 ∨ 19 ≤ k
          · rw [lk_o w, lk_o w]
          · rw [lk_s w, lk_s w, q1 k (by omega), al0_n (by omega) (by omega)]) (by rw [lk_s (k := 1) (by decide), lk_s (k := 1) (by decide), q1 1 (by decide)]; rfl) (P.fr2 _ (Nat.le_refl _) hA) (fun k hk => P.fr3 _ (by show 8 * zN (σ 0 0) ≤ 8 * zN (σ 0 0) + k; omega) (by show 8 * zN (σ 0 0) + k < 80; omega)) (fun c hc => by
          have hc : c < 8 * zN (σ 0 0) := hc
          obtain ⟨w1, w2, w3⟩ := q2 c (Or.inl hc)
          rw [lk_s (k := 4) (by decide), lk_s (k := 5) (by decide), lk_s (k := 6) (by decide), lk_s (k := 4) (by decide), lk_s (k := 5) (by decide), lk_s (k := 6) (by decide), lk_o (k := 7) (by decide), lk_o (k := 7) (by decide), w1, w2, w3, al0_n (by decide) (by decide), al0_n (by decide) (by decide), al0_n (by decide) (by decide)]
          exact ⟨rfl, rfl, rfl, rfl⟩) (fun k hk => by
          obtain ⟨w1, w2, w3⟩ := q3 k hk
          have w4 : slc (κ 7) (8 * zN (σ 0 0) + k) = upd (fun _ => 0) 0 0 := by
            funext z
            unfold slc upd
            split
            · rw [(P.fr5 (12 * (8 * zN (σ 0 0) + k) + z) (by omega) (by omega)).2.2.2]
              split <;> rfl
            · split <;> rfl
          exact ⟨w1, w2, w3, w4⟩) (fun j hj => (P.inv.ow hj).2) (fun x hx => (P.inv.cl hx).1.2) ho A0
        rw [← hg]
        rw [← rfs_up (n := zN (lk σ κ 0 0)) (q := o) (g := fun x => β 2 x 0) (g' := fun x => adA β (zN (lk σ κ 0 0)) o s γ 2 x 0) adA_2 (fun j hj => adA_x (by decide) hj)] at R3
        rw [lk_s (k := 0) (by decide), lk_s (σ := inl (al0 σ n) (zN (σ 0 0)) (σ 8 0) n) (k := 0) (by decide), q0] at R3
        exact R3
      have sp := r_addPointer (o := -1) (a := zN (σ 0 0)) R2 P1 (by rw [q8]; exact hP) (by rw [q0, e2]; omega)
      rw [adA_2, adA_n (t := 0) (by decide), q8] at sp
      have M2 := R2.M
      rw [adA_n (t := 0) (x := 0) (by decide)] at M2
      refine bs_aload_n (pc' := 73) dX5_performAllocate_72 rfl rfl rfl ?_
      refine bs_aload_n (pc' := 74) dX5_performAllocate_73 rfl rfl rfl ?_
      refine bs_iconst (v := (-1)) (pc' := 75) dX5_performAllocate_74 (by decide) rfl ?_
      refine bs_callV (N := mX5_addPointer) (pc' := 78) dX5_performAllocate_75 km_X5_198 ko_X5_addPointer sp M2 rfl rfl rfl (by omega) (Nat.le_refl _) (Nat.le_refl _) rfl ?_
      rintro _ h2 ⟨rfl, q, R4⟩
      exact bs_iret dX5_performAllocate_78 rfl ⟨rfl, _, κ, (adB_n (by decide)).trans (adA_n (by decide)), P2, R4, S⟩
  · have ek : k_alloc σ x = (-2, σ) := by
      unfold k_alloc
      rw [if_neg hx]
    rw [ek]
    refine bs_Sp.of (by decide) rfl ?_
    refine bs_iload_n (pc' := 1) dX5_performAllocate_0 rfl rfl ?_
    refine bs_iconst (v := 1) (pc' := 2) dX5_performAllocate_1 (by decide) rfl ?_
    refine bs_icmp_lt (tgt := 11) (pc' := 5) dX5_performAllocate_2 rfl rfl (fun c2 => ?_) (fun c2 => ?_)
    · refine bs_bipush (v := (-2)) (pc' := 13) dX5_performAllocate_11 (by decide) rfl ?_
      exact bs_iret dX5_performAllocate_13 rfl ⟨rfl, β, κ, rfl, P, R, S⟩
    · refine bs_iload_n (pc' := 6) dX5_performAllocate_5 rfl rfl ?_
      refine bs_bipush (v := 8) (pc' := 8) dX5_performAllocate_6 (by decide) rfl ?_
      refine bs_icmp_le (tgt := 14) (pc' := 11) dX5_performAllocate_8 rfl rfl (fun c8 => ?_) (fun c8 => ?_)
      · exact absurd ⟨Int32.not_lt.mp c2, c8⟩ hx
      · refine bs_bipush (v := (-2)) (pc' := 13) dX5_performAllocate_11 (by decide) rfl ?_
        exact bs_iret dX5_performAllocate_13 rfl ⟨rfl, β, κ, rfl, P, R, S⟩
end Alc3
