/-! a pointer more -/
theorem bs_set_set {h : Hp} {a : Nat} {e e' : va_E} : bs_set (bs_set h a e) a e' = bs_set h a e' := by
  funext b
  unfold bs_set
  split <;> rfl
theorem va_up_at {f : Nat → Option Nat} {i j : Nat} {v : Option Nat} : va_up f i v j = if j = i then v else f j := rfl
theorem rfs_up {n q : Nat} {g g' : Nat → Nat} (hn : g' n = q) (hg : ∀ j, j < n → g' j = g j) : va_up (rfs n g) n (some q) = rfs (n + 1) g' := by
  funext j
  rw [va_up_at]
  unfold rfs
  by_cases h : j = n
  · subst h
    rw [if_pos rfl, if_pos (by omega), hn]
  · rw [if_neg h]
    by_cases h2 : j < n
    · rw [if_pos h2, if_pos (by omega), hg j h2]
    · rw [if_neg h2, if_neg (by omega)]
def adB (β : AB) (n q : Nat) : AB := fun t x r => if t = 1 ∧ x = n then q else β t x r
section AddP
variable {G : GG} {h0 h h' : Hp} {β : AB} {B : Nat} {σ κ υ υ' : MS} {n q a : Nat} {o : Int32}
theorem adB_n {t x r : Nat} (ht : t ≠ 1) : adB β n q t x r = β t x r := if_neg (fun z => ht z.1)
theorem adB_o {t x r : Nat} (hx : x ≠ n) : adB β n q t x r = β t x r := if_neg (fun z => hx z.2)
theorem adB_1 {r : Nat} : adB β n q 1 n r = q := if_pos ⟨rfl, rfl⟩
theorem Rep.some (R : Rep G h0 β υ h) {t x r : Nat} (hl : lvI υ t x r) (hq : h q = none) : β t x r ≠ q := fun e => by
  have := R.1 t x r hl
  rw [e, hq] at this
  cases this
theorem aP_lq (hn : zN (υ 8 0) = n) (hn' : zN (υ' 8 0) = n + 1) (e : ∀ k, ¬ (k = 8 ∨ k = 9 ∨ k = 10) → υ' k = υ k) : ∀ t x r, lvI υ' t x r → lvI υ t x r ∨ (t = 1 ∧ x = n ∧ r = 0) := by
  intro t x r z
  match t, z with
  | 0, z => exact Or.inl ⟨z.1, z.2⟩
  | 1, z =>
    have z1 : x < zN (υ' 8 0) := z.1
    by_cases w : x = n
    · exact Or.inr ⟨rfl, w, z.2⟩
    · exact Or.inl ⟨by omega, z.2⟩
  | 2, z => exact Or.inl ⟨by have := z.1; rw [e 0 (by decide)] at this; exact this, z.2⟩
  | 3, z => exact Or.inl ⟨by have := z.1; rw [e 0 (by decide)] at this; exact this, z.2⟩
  | 4, z => exact Or.inl ⟨z.1, by have := z.2; rw [e 0 (by decide), e 1 (by decide)] at this; exact this⟩
  | t + 5, z => exact absurd z id
theorem aP_ql (hn : zN (υ 8 0) = n) (hn' : zN (υ' 8 0) = n + 1) (e : ∀ k, ¬ (k = 8 ∨ k = 9 ∨ k = 10) → υ' k = υ k) : ∀ t x r, lvI υ t x r → lvI υ' t x r := by
  intro t x r z
  match t, z with
  | 0, z => exact ⟨z.1, z.2⟩
  | 1, z =>
    have z1 : x < zN (υ 8 0) := z.1
    exact ⟨by omega, z.2⟩
  | 2, z => exact ⟨by rw [e 0 (by decide)]; exact z.1, z.2⟩
  | 3, z => exact ⟨by rw [e 0 (by decide)]; exact z.1, z.2⟩
  | 4, z => exact ⟨z.1, by rw [e 0 (by decide), e 1 (by decide)]; exact z.2⟩
  | t + 5, z => exact absurd z id
theorem aP_old (hn : zN (υ 8 0) = n) : ∀ t x r, lvI υ t x r → adB β n q t x r = β t x r := by
  intro t x r z
  unfold adB
  rw [if_neg]
  rintro ⟨h1, h2⟩
  rw [h1] at z
  have z1 : x < zN (υ 8 0) := z.1
  omega
theorem Rep.addP (R : Rep G h0 β υ h) (hn : zN (υ 8 0) = n) (hn' : zN (υ' 8 0) = n + 1) (hq : h q = none) (e : ∀ k, ¬ (k = 8 ∨ k = 9 ∨ k = 10) → υ' k = υ k) (e9 : υ' 9 = upd (υ 9) n (nI a)) (e10 : υ' 10 = upd (υ 10) n o) (ha : zN (nI a) = a) (hh : ∀ b, b ≠ q → b ≠ β 0 2 0 → b ≠ β 0 0 0 → h' b = h b) (h1 : h' q = Option.some (.inr (3, [.ref (β 2 a 0), .int o]))) (h2 : h' (β 0 2 0) = Option.some (rRow G 3 60 (rfs (n + 1) (fun j => adB β n q 1 j 0)))) (h3 : h' (β 0 0 0) = Option.some (.inr (5, [.ref (β 0 1 0), .int (υ 0 0), .ref (β 0 2 0), .int (υ' 8 0), .ref (β 0 3 0), .ref (β 0 5 0), .ref (β 0 9 0), .int (υ 12 0), .int (υ 13 0), .int (υ 14 0)]))) : Rep G h0 (adB β n q) υ' h' := by
  have lq := aP_lq hn hn' e
  have ql := aP_ql hn hn' e
  have qn : lvI υ' 1 n 0 := ⟨by omega, rfl⟩
  have old := aP_old (β := β) (q := q) hn
  refine ⟨fun t x r z => ?_, fun t x r t' x' r' z z' w => ?_, fun t x r z => ?_, fun b z => ?_⟩
  · rcases lq t x r z with z0 | ⟨rfl, rfl, rfl⟩
    · rw [old t x r z0]
      have f1 := R.some z0 hq
      match t, z0 with
      | 0, z0 =>
        have hx : x < 10 := z0.1
        obtain rfl : r = 0 := z0.2
        by_cases x0 : x = 0
        · subst x0
          rw [h3]
          simp only [cont, cob, adB_n (show 0 ≠ 1 by decide), e 0 (by decide), e 12 (by decide), e 13 (by decide), e 14 (by decide)]
        · by_cases x2 : x = 2
          · subst x2
            rw [h2]
            simp only [cont, cob, hn']
          · rw [hh _ f1 (R.ne z0 (lv0 rfl) (by omega)) (R.ne z0 (lv0 rfl) (by omega)), R.1 0 x 0 z0]
            have : x = 1 ∨ x = 3 ∨ x = 4 ∨ x = 5 ∨ x = 6 ∨ x = 7 ∨ x = 8 ∨ x = 9 := by omega
            rcases this with rfl | rfl | rfl | rfl | rfl | rfl | rfl | rfl <;> simp only [cont, cob, adB_n (show 0 ≠ 1 by decide), adB_n (show 2 ≠ 1 by decide), e 0 (by decide), e 11 (by decide), e 15 (by decide), e 16 (by decide), e 17 (by decide), e 18 (by decide), e 19 (by decide), e 20 (by decide), e 21 (by decide), e 22 (by decide), e 23 (by decide)]
      | 1, z0 =>
        have z1 : x < zN (υ 8 0) := z0.1
        rw [hh _ f1 (R.ne z0 (lv0 rfl) (by omega)) (R.ne z0 (lv0 rfl) (by omega)), R.1 1 x r z0]
        simp only [cont, adB_n (show 2 ≠ 1 by decide), e9, e10, upd]
        rw [if_neg (by omega), if_neg (by omega)]
      | 2, z0 =>
        rw [hh _ f1 (R.ne z0 (lv0 rfl) (by omega)) (R.ne z0 (lv0 rfl) (by omega)), R.1 2 x r z0]
        simp only [cont, adB_n (show 3 ≠ 1 by decide), e 2 (by decide)]
      | 3, z0 =>
        rw [hh _ f1 (R.ne z0 (lv0 rfl) (by omega)) (R.ne z0 (lv0 rfl) (by omega)), R.1 3 x r z0]
        simp only [cont, adB_n (show 4 ≠ 1 by decide), e 1 (by decide)]
      | 4, z0 =>
        rw [hh _ f1 (R.ne z0 (lv0 rfl) (by omega)) (R.ne z0 (lv0 rfl) (by omega)), R.1 4 x r z0]
        simp only [cont, cce, adB_n (show 4 ≠ 1 by decide), e 3 (by decide), e 4 (by decide), e 5 (by decide), e 6 (by decide), e 7 (by decide)]
      | t + 5, z0 => exact absurd z0 id
    · rw [adB_1, h1]
      simp only [cont, adB_n (show 2 ≠ 1 by decide), e9, e10, upd, if_true, ha]
  · rcases lq t x r z with z0 | ⟨rfl, rfl, rfl⟩
    · rcases lq t' x' r' z' with z0' | ⟨rfl, rfl, rfl⟩
      · rw [old t x r z0, old t' x' r' z0'] at w
        exact R.2.1 _ _ _ _ _ _ z0 z0' w
      · rw [old t x r z0, adB_1] at w
        exact absurd w (R.some z0 hq)
    · rcases lq t' x' r' z' with z0' | ⟨rfl, rfl, rfl⟩
      · rw [old t' x' r' z0', adB_1] at w
        exact absurd w.symm (R.some z0' hq)
      · exact ⟨rfl, rfl, rfl⟩
  · rcases lq t x r z with z0 | ⟨rfl, rfl, rfl⟩
    · rw [old t x r z0]
      exact R.2.2.1 t x r z0
    · rw [adB_1, ← R.2.2.2 q (fun t x r z => R.some z hq)]
      exact hq
  · have b1 : b ≠ q := fun w => z 1 n 0 qn (by rw [adB_1, w])
    have b2 : ∀ t x r, lvI υ t x r → β t x r ≠ b := fun t x r z0 w => z t x r (ql t x r z0) (by rw [old t x r z0, w])
    rw [hh b b1 (fun w => b2 0 2 0 (lv0 rfl) w.symm) (fun w => b2 0 0 0 (lv0 rfl) w.symm)]
    exact R.2.2.2 b b2
theorem s3_init {ho : Nat} (hq : h q = some (.inr (3, [.null, .int 0]))) : bs_Sp G mX3_init 1 0 0 [.ref q, .ref ho, .int o] h (fun v h' => v = none ∧ h' = bs_set h q (.inr (3, [.ref ho, .int o]))) := by
  refine bs_Sp.of (by decide) rfl ?_
  refine bs_aload_n (pc' := 1) dX3_init_0 rfl rfl rfl ?_
  refine bs_obj (pc' := 4) dX3_init_1 kob_X3 kob_i kob_c (by omega) rfl rfl ?_
  refine bs_aload_n (pc' := 5) dX3_init_4 rfl rfl rfl ?_
  refine bs_aload_n (pc' := 6) dX3_init_5 rfl rfl rfl ?_
  refine bs_putF (pc' := 9) kF_X3_7 dX3_init_6 rfl hq rfl rfl rfl rfl ?_
  refine bs_aload_n (pc' := 10) dX3_init_9 rfl rfl rfl ?_
  refine bs_iload_n (pc' := 11) dX3_init_10 rfl rfl ?_
  refine bs_putF (pc' := 14) kF_X3_13 dX3_init_11 rfl bs_set_self rfl rfl rfl rfl ?_
  exact bs_vret dX3_init_14 rfl ⟨rfl, bs_set_set⟩
theorem r_addPointer (R : Rep G h0 β (lk σ κ) h) (P : PI B σ κ) (hP : zN (σ 8 0) < 60) (ha : a < zN (σ 0 0)) : bs_Sp G mX5_addPointer 2 1 2 [.ref (β 0 0 0), .ref (β 2 a 0), .int o] h (fun v h' => v = some (.int (σ 8 0)) ∧ ∃ q, Rep G h0 (adB β (zN (σ 8 0)) q) (lk (nwP σ (nI a) o) κ) h') := by
  have h10 := P.inv.nA.2
  have e8 := P.inv.nP.1
  have hlt : σ 8 0 < 60 := by
    rw [e8, show (60 : Int32) = nI 60 from rfl]
    exact nI_lt hP (by decide)
  have hin : vp_in (σ 8 0) 60 := by
    rw [e8]
    exact vp_in_nI hP (by decide)
  have n20 : β 0 0 0 ≠ β 0 2 0 := R.ne (lv0 rfl) (lv0 rfl) (by omega)
  refine bs_Sp.of (by decide) rfl ?_
  refine bs_aload_n (pc' := 1) dX5_addPointer_0 rfl rfl rfl ?_
  refine bs_getf (pc' := 4) kf_X5_146 dX5_addPointer_1 R.M rfl rfl ?_
  refine bs_istore_n (pc' := 5) (lv' := [(0, _), (1, _), (2, _), (3, _)]) dX5_addPointer_4 rfl rfl rfl ?_
  refine bs_iload_n (pc' := 6) dX5_addPointer_5 rfl rfl ?_
  refine bs_bipush (v := 60) (pc' := 8) dX5_addPointer_6 (by decide) rfl ?_
  refine bs_icmp_lt (tgt := 14) (pc' := 11) dX5_addPointer_8 rfl rfl (fun _ => ?_) (fun c8 => absurd hlt c8)
  refine bs_aload_n (pc' := 15) dX5_addPointer_14 rfl rfl rfl ?_
  refine bs_getf (pc' := 18) kf_X5_17 dX5_addPointer_15 R.M rfl rfl ?_
  refine bs_iload_n (pc' := 19) dX5_addPointer_18 rfl rfl ?_
  refine bs_new (bc' := 0) (bs' := 0) (fs := [.null, .int 0]) (pc' := 22) dX5_addPointer_19 cl_3 kk_X5_15 kin_3 ko_X3_init.2.1 (fun j hj => by
    have : j = 0 ∨ j = 1 := by omega
    rcases this with rfl | rfl <;> rfl) (by decide) (by decide) rfl (fun q hq => ?_)
  have q0 : β 0 0 0 ≠ q := R.some (lv0 rfl) hq
  have q2 : β 0 2 0 ≠ q := R.some (lv0 rfl) hq
  refine bs_dup (pc' := 23) dX5_addPointer_22 rfl rfl ?_
  refine bs_aload_n (pc' := 24) dX5_addPointer_23 rfl rfl rfl ?_
  refine bs_iload_n (pc' := 25) dX5_addPointer_24 rfl rfl ?_
  refine bs_callI (N := mX3_init) (pc' := 28) dX5_addPointer_25 km_X5_253 ko_X3_init (s3_init bs_set_self) rfl rfl rfl (by omega) (Nat.le_refl _) (Nat.le_refl _) rfl ?_
  rintro _ _ ⟨rfl, rfl⟩
  rw [bs_set_set]
  refine bs_aast (t := 3) (n := 60) (pc' := 29) dX5_addPointer_28 ((bs_set_ne q2).trans R.aP) (by decide) bs_set_self rfl rfl hin rfl ?_
  refine bs_aload_n (pc' := 30) dX5_addPointer_29 rfl rfl rfl ?_
  refine bs_dup (pc' := 31) dX5_addPointer_30 rfl rfl ?_
  refine bs_getf (pc' := 34) kf_X5_146 dX5_addPointer_31 ((bs_set_ne n20).trans ((bs_set_ne q0).trans R.M)) rfl rfl ?_
  refine bs_iconst (v := 1) (pc' := 35) dX5_addPointer_34 (by decide) rfl ?_
  refine bs_iadd (pc' := 36) dX5_addPointer_35 rfl ?_
  refine bs_putf (pc' := 39) kf_X5_146 dX5_addPointer_36 ((bs_set_ne n20).trans ((bs_set_ne q0).trans R.M)) rfl rfl rfl rfl ?_
  refine bs_iload_n (pc' := 40) dX5_addPointer_39 rfl rfl ?_
  exact bs_iret dX5_addPointer_40 rfl ⟨rfl, q, R.addP (υ' := lk (nwP σ (nI a) o) κ) (n := zN (σ 8 0)) (a := a) (o := o) rfl (by rw [lk_s (k := 8) (by decide), nwP_8]; exact (zN_s P.inv.nP (by decide)).2) hq (fun k hk => by
    by_cases w : k = 7 ∨ k = 16 ∨ 19 ≤ k
    · rw [lk_o w, lk_o w]
    · rw [lk_s w, lk_s w, nwP_n hk]) (by rw [lk_s (k := 9) (by decide), lk_s (k := 9) (by decide), nwP_9]) (by rw [lk_s (k := 10) (by decide), lk_s (k := 10) (by decide), nwP_10]) (zN_nI (by omega)) (fun b b1 b2 b3 => by rw [bs_set_ne b3, bs_set_ne b2, bs_set_ne b1]) (by rw [bs_set_ne q0.symm, bs_set_ne q2.symm, bs_set_self]) (by
    rw [bs_set_ne n20.symm, bs_set_self, ← rfs_up (n := zN (σ 8 0)) (q := q) (g := fun j => β 1 j 0) (g' := fun j => adB β (zN (σ 8 0)) q 1 j 0) adB_1 (fun j hj => adB_o (by omega))]
    rfl) (by
    rw [bs_set_self, lk_s (k := 8) (by decide), nwP_8]
    rfl)⟩
end AddP
