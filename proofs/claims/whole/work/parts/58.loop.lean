/-! the law's loop -/
theorem lx_e {L : Nat} (h : 6 ≤ L) : nI L - 6 = nI (L - 6) := by
  have e : nI L = nI (L - 6) + nI 6 := by rw [nI_add, Nat.sub_add_cancel h]
  rw [e]
  exact Int32.add_sub_cancel _ _
theorem lx_f {L i : Nat} (h : i + 6 ≤ L) (hL : L ≤ 3072) : ¬ nI L - 6 < nI i := by
  rw [lx_e (by omega), nI_ltI (by omega) (by omega)]
  omega
theorem lx_t {L i : Nat} (h : L < i + 6) (hL : L ≤ 3072) (hi : i ≤ 4000) : nI L - 6 < nI i := by
  by_cases h6 : 6 ≤ L
  · rw [lx_e h6, nI_ltI (by omega) (by omega)]
    omega
  · have d : ∀ l, l < 6 → nI l - 6 < nI 0 := by decide
    exact Int32.lt_of_lt_of_le (d L (by omega)) (nI_le (Nat.zero_le i) (by omega))
section Loop
variable {G : GG} {y m : Nat} {A : Nat → Nat} {b L : Nat} {xs : Nat → Int32}
theorem LI.up {B B' : Nat} {σ : MS} {h : Hp} (I : LI G y m A B σ h) (hB : B ≤ B') : LI G y m A B' σ h := by
  obtain ⟨hs, ψ, e, C⟩ := I
  exact ⟨hs, ψ, e, C.up hB⟩
/-- the switch -/
theorem l_sw {σ : MS} {h : Hp} {i f B : Nat} (hA : mOk y A) (hi : i + 6 ≤ L) (hL : L ≤ 3072) (hB : B + 60 < 1000000) (I : LI G y m A B σ h) (h16 : σ 16 0 = 0) (nx : Nx G y m A b L xs i f B) (j : Nat) (hj : j < 32) : lB G b L xs (34 * (10 - zN (σ 0 0)) + 60 * (f + 1)) (339 * (10 - zN (σ 0 0)) + 120 * (f + 1)) h 33 (lV b m y i) [.int (nI j)] := by
  match j, hj with
  | 0, _ => exact bs_switchIn (off := 131) (tgt := 164) dL_law_33 (by decide) (by decide) (by decide) rfl (l_allocate hA hi hL hB I h16 nx)
  | 1, _ => exact bs_switchIn (off := 154) (tgt := 187) dL_law_33 (by decide) (by decide) (by decide) rfl (l_read hA hi hL hB I h16 nx)
  | 2, _ => exact bs_switchIn (off := 187) (tgt := 220) dL_law_33 (by decide) (by decide) (by decide) rfl (l_write hA hi hL hB I h16 nx)
  | 3, _ => exact bs_switchIn (off := 230) (tgt := 263) dL_law_33 (by decide) (by decide) (by decide) rfl (l_reborrow hA hi hL hB I h16 nx)
  | 4, _ => exact bs_switchIn (off := 293) (tgt := 326) dL_law_33 (by decide) (by decide) (by decide) rfl (l_free hA hi hL hB I h16 nx)
  | 5, _ => exact bs_switchIn (off := 316) (tgt := 349) dL_law_33 (by decide) (by decide) (by decide) rfl (l_enterCall hA hi hL hB I h16 nx)
  | 6, _ => exact bs_switchIn (off := 329) (tgt := 362) dL_law_33 (by decide) (by decide) (by decide) rfl (l_leaveCall hA hi hL hB I h16 nx)
  | 7, _ => exact bs_switchIn (off := 342) (tgt := 375) dL_law_33 (by decide) (by decide) (by decide) rfl (l_checkRead hA hi hL hB I h16 nx)
  | 8, _ => exact bs_switchIn (off := 375) (tgt := 408) dL_law_33 (by decide) (by decide) (by decide) rfl (l_checkWrite hA hi hL hB I h16 nx)
  | 9, _ => exact bs_switchIn (off := 408) (tgt := 441) dL_law_33 (by decide) (by decide) (by decide) rfl (l_checkFree hA hi hL hB I h16 nx)
  | 10, _ => exact bs_switchIn (off := 431) (tgt := 464) dL_law_33 (by decide) (by decide) (by decide) rfl (l_removedByWrite hA hi hL hB I h16 nx)
  | 11, _ => exact bs_switchIn (off := 464) (tgt := 497) dL_law_33 (by decide) (by decide) (by decide) rfl (l_stackSize hA hi hL hB I h16 nx)
  | 12, _ => exact bs_switchIn (off := 497) (tgt := 530) dL_law_33 (by decide) (by decide) (by decide) rfl (l_itemTag hA hi hL hB I h16 nx)
  | 13, _ => exact bs_switchIn (off := 540) (tgt := 573) dL_law_33 (by decide) (by decide) (by decide) rfl (l_itemPermission hA hi hL hB I h16 nx)
  | 14, _ => exact bs_switchIn (off := 583) (tgt := 616) dL_law_33 (by decide) (by decide) (by decide) rfl (l_itemProtected hA hi hL hB I h16 nx)
  | 15, _ => exact bs_switchIn (off := 626) (tgt := 659) dL_law_33 (by decide) (by decide) (by decide) rfl (l_allocationOf hA hi hL hB I h16 nx)
  | 16, _ => exact bs_switchIn (off := 649) (tgt := 682) dL_law_33 (by decide) (by decide) (by decide) rfl (l_parent hA hi hL hB I h16 nx)
  | 17, _ => exact bs_switchIn (off := 672) (tgt := 705) dL_law_33 (by decide) (by decide) (by decide) rfl (l_liveCells hA hi hL hB I h16 nx)
  | 18, _ => exact bs_switchIn (off := 695) (tgt := 728) dL_law_33 (by decide) (by decide) (by decide) rfl (l_isFreed hA hi hL hB I h16 nx)
  | 19, _ => exact bs_switchIn (off := 718) (tgt := 751) dL_law_33 (by decide) (by decide) (by decide) rfl (l_pointerCount hA hi hL hB I h16 nx)
  | 20, _ => exact bs_switchIn (off := 731) (tgt := 764) dL_law_33 (by decide) (by decide) (by decide) rfl (l_callDepth hA hi hL hB I h16 nx)
  | 21, _ => exact bs_switchIn (off := 744) (tgt := 777) dL_law_33 (by decide) (by decide) (by decide) rfl (l_violationCount hA hi hL hB I h16 nx)
  | 22, _ => exact bs_switchIn (off := 757) (tgt := 790) dL_law_33 (by decide) (by decide) (by decide) rfl (l_violationKind hA hi hL hB I h16 nx)
  | 23, _ => exact bs_switchIn (off := 770) (tgt := 803) dL_law_33 (by decide) (by decide) (by decide) rfl (l_violationCell hA hi hL hB I h16 nx)
  | 24, _ => exact bs_switchIn (off := 783) (tgt := 816) dL_law_33 (by decide) (by decide) (by decide) rfl (l_errorCount hA hi hL hB I h16 nx)
  | 25, _ => exact bs_switchIn (off := 806) (tgt := 839) dL_law_33 (by decide) (by decide) (by decide) rfl (l_append hA hi hL hB I h16 nx)
  | 26, _ => exact bs_switchIn (off := 829) (tgt := 862) dL_law_33 (by decide) (by decide) (by decide) rfl (l_clearText hA hi hL hB I h16 nx)
  | 27, _ => exact bs_switchIn (off := 842) (tgt := 875) dL_law_33 (by decide) (by decide) (by decide) rfl (l_runScript hA hi hL hB I h16 nx)
  | 28, _ => exact bs_switchIn (off := 855) (tgt := 888) dL_law_33 (by decide) (by decide) (by decide) rfl (l_digest hA hi hL hB I h16 nx)
  | 29, _ => exact bs_switchOut (tgt := 902) dL_law_33 (Or.inr (by decide)) rfl (bs_B.more (nx _ _ (I.up (by omega)) h16) (by omega) (by omega))
  | 30, _ => exact bs_switchOut (tgt := 902) dL_law_33 (Or.inr (by decide)) rfl (bs_B.more (nx _ _ (I.up (by omega)) h16) (by omega) (by omega))
  | 31, _ => exact bs_switchOut (tgt := 902) dL_law_33 (Or.inr (by decide)) rfl (bs_B.more (nx _ _ (I.up (by omega)) h16) (by omega) (by omega))
  | n + 32, hn => exact absurd hn (by omega)
theorem l_loop (hA : mOk y A) (hL : L ≤ 3072) : ∀ (f i B : Nat) (σ : MS) (h : Hp), LI G y m A B σ h → σ 16 0 = 0 → B + 60 * f < 1000000 → L ≤ i + 6 * f + 5 → i + 6 * f ≤ 4000 → lB G b L xs (34 * (10 - zN (σ 0 0)) + 60 * f) (339 * (10 - zN (σ 0 0)) + 120 * f) h 18 (lV b m y i) [] := by
  intro f
  induction f with
  | zero =>
    intro i B σ h I h16 hB h1 h2
    refine bs_iload_n (pc' := 19) dL_law_18 rfl rfl ?_
    refine bs_aload_n (pc' := 20) dL_law_19 rfl rfl rfl ?_
    refine bl_slen (pc' := 21) dL_law_20 rfl ?_
    refine bs_bipush (v := 6) (pc' := 23) dL_law_21 (by decide) rfl ?_
    refine bs_isub (pc' := 24) dL_law_23 rfl ?_
    refine bs_icmp_gt (tgt := 908) (pc' := 27) dL_law_24 rfl rfl (fun _ => ?_) (fun c24 => absurd (lx_t (by omega) hL (by omega)) c24)
    refine bs_iconst (v := 1) (pc' := 909) dL_law_908 (by decide) rfl ?_
    exact bs_zret dL_law_909 rfl (by decide) rfl
  | succ f ih =>
    intro i B σ h I h16 hB h1 h2
    by_cases hi : i + 6 ≤ L
    · have nx : Nx G y m A b L xs i f B := by
        intro σ' h' I' k16
        refine bs_iinc (pc' := 905) (lv' := [(0, _), (1, _), (2, _), (3, _)]) dL_law_902 rfl (nI_add i 6) rfl rfl rfl ?_
        refine bs_goto (tgt := 18) dL_law_905 rfl ?_
        exact ih (i + 6) (B + 60) σ' h' I' k16 (by omega) (by omega) (by omega)
      obtain ⟨j, hj, e⟩ := pk_andE (xs i) (m := 31) 5 (by decide)
      refine bs_iload_n (pc' := 19) dL_law_18 rfl rfl ?_
      refine bs_aload_n (pc' := 20) dL_law_19 rfl rfl rfl ?_
      refine bl_slen (pc' := 21) dL_law_20 rfl ?_
      refine bs_bipush (v := 6) (pc' := 23) dL_law_21 (by decide) rfl ?_
      refine bs_isub (pc' := 24) dL_law_23 rfl ?_
      refine bs_icmp_gt (tgt := 908) (pc' := 27) dL_law_24 rfl rfl (fun c24 => absurd c24 (lx_f hi hL)) (fun _ => ?_)
      refine bs_aload_n (pc' := 28) dL_law_27 rfl rfl rfl ?_
      refine bs_iload_n (pc' := 29) dL_law_28 rfl rfl ?_
      refine bl_sld (pc' := 30) dL_law_29 i rfl ⟨by omega, by omega⟩ rfl ?_
      refine bs_bipush (v := 31) (pc' := 32) dL_law_30 (by decide) rfl ?_
      refine bs_iand (pc' := 33) dL_law_32 rfl ?_
      refine bs_topi _ e ?_
      exact l_sw hA hi hL (by omega) I h16 nx j hj
    · refine bs_iload_n (pc' := 19) dL_law_18 rfl rfl ?_
      refine bs_aload_n (pc' := 20) dL_law_19 rfl rfl rfl ?_
      refine bl_slen (pc' := 21) dL_law_20 rfl ?_
      refine bs_bipush (v := 6) (pc' := 23) dL_law_21 (by decide) rfl ?_
      refine bs_isub (pc' := 24) dL_law_23 rfl ?_
      refine bs_icmp_gt (tgt := 908) (pc' := 27) dL_law_24 rfl rfl (fun _ => ?_) (fun c24 => absurd (lx_t (by omega) hL (by omega)) c24)
      refine bs_iconst (v := 1) (pc' := 909) dL_law_908 (by decide) rfl ?_
      exact bs_zret dL_law_909 rfl (by decide) rfl
theorem CR.lay {h : Hp} {B : Nat} {ψ σ τ : MS} {hs : Int64} (C : CR G nil m ψ B σ h) (hy : h y = none) (ha : ∀ k, k ∈ mLa → h (A k) = none) : CR G (mh G nil y A τ hs) m ψ B σ (mh G h y A τ hs) := by
  obtain ⟨β, κ, e, P, R, S⟩ := C
  have ne : ∀ t x r, lvI (lk σ κ) t x r → β t x r ≠ y ∧ ∀ k, k ∈ mLa → A k ≠ β t x r := by
    intro t x r z
    have q := R.1 t x r z
    refine ⟨fun w => ?_, fun k hk w => ?_⟩
    · rw [w, hy] at q
      cases q
    · rw [← w, ha k hk] at q
      cases q
  refine ⟨β, κ, e, P, ⟨fun t x r z => ?_, R.2.1, fun t x r z => ?_, fun a z => ?_⟩, S⟩
  · rw [mh_o (ne t x r z).1 (ne t x r z).2]
    exact R.1 t x r z
  · rw [mh_o (ne t x r z).1 (ne t x r z).2]
  · by_cases q : a ≠ y ∧ ∀ k, k ∈ mLa → A k ≠ a
    · rw [mh_o q.1 q.2, mh_o q.1 q.2, R.2.2.2 a z]
    · exact mh_same q
/-- the law as a whole -/
theorem l_law (hL : L ≤ 3072) : bs_B G (lwX G b L xs) mL_law 8 40000 80000 nil 0 [(0, .ref b)] [] (fun v _ => v = some (.int 1)) := by
  refine bs_new (bc' := 39999) (bs' := 79990) (fs := [.null, .int 0, .null, .int 0, .null, .null, .null, .int 0, .int 0, .int 0]) (pc' := 3) dL_law_0 cl_5 kk_L_7 kin_5 ko_X5_init.2.1 (fun j hj => by
    have : j = 0 ∨ j = 1 ∨ j = 2 ∨ j = 3 ∨ j = 4 ∨ j = 5 ∨ j = 6 ∨ j = 7 ∨ j = 8 ∨ j = 9 := by omega
    rcases this with rfl | rfl | rfl | rfl | rfl | rfl | rfl | rfl | rfl | rfl <;> rfl) (by decide) (by decide) rfl (fun m gm => ?_)
  refine bs_dup (pc' := 4) dL_law_3 rfl rfl ?_
  refine bs_callI (N := mX5_init) (pc' := 7) dL_law_4 km_L_9 ko_X5_init (p_init gm) rfl rfl rfl (by omega) (show 39990 + 9 ≤ 39999 by decide) (show 79543 + 447 ≤ 79990 by decide) rfl ?_
  rintro _ h1 ⟨rfl, C⟩
  refine bs_astore_n (pc' := 8) (lv' := [(0, _), (1, _)]) dL_law_7 rfl rfl rfl rfl ?_
  refine bs_new (bc' := 39989) (bs' := 79519) (fs := [.int 0, .null, .null, .null, .null, .null, .null, .null, .int 0, .null, .null, .int 0, .int 0, .int 0, .int 0, .null, .int 0, .null, .int 0, .null, .null, .int 0, .int 0, .long 0]) (pc' := 11) dL_law_8 cl_6 kk_L_10 kin_6 ko_X6_init.2.1 (fun j hj => by
    have : j = 0 ∨ j = 1 ∨ j = 2 ∨ j = 3 ∨ j = 4 ∨ j = 5 ∨ j = 6 ∨ j = 7 ∨ j = 8 ∨ j = 9 ∨ j = 10 ∨ j = 11 ∨ j = 12 ∨ j = 13 ∨ j = 14 ∨ j = 15 ∨ j = 16 ∨ j = 17 ∨ j = 18 ∨ j = 19 ∨ j = 20 ∨ j = 21 ∨ j = 22 ∨ j = 23 := by omega
    rcases this with rfl | rfl | rfl | rfl | rfl | rfl | rfl | rfl | rfl | rfl | rfl | rfl | rfl | rfl | rfl | rfl | rfl | rfl | rfl | rfl | rfl | rfl | rfl | rfl <;> rfl) (by decide) (by decide) rfl (fun y gy => ?_)
  refine bs_dup (pc' := 12) dL_law_11 rfl rfl ?_
  refine bs_callI (N := mX6_init) (pc' := 15) dL_law_12 km_L_12 ko_X6_init (sm_init gy) rfl rfl rfl (by omega) (show 39976 + 13 ≤ 39989 by decide) (show 75976 + 3543 ≤ 79519 by decide) rfl ?_
  rintro _ h2 ⟨rfl, q1, q2, q3, q4, q5, q6, q7, q9, q10, q15, q17, q19, q20, fq, rfl⟩
  obtain ⟨hA, e⟩ := mh_of fq
  rw [e]
  have fn := fq.2.2
  have C2 := C.lay (A := adr q1 q2 q3 q4 q5 q6 q7 q9 q10 q15 q17 q19 q20) (τ := z0) (hs := 0) gy (fun k hk => by
    simp only [mLa, List.mem_cons, List.not_mem_nil, or_false] at hk
    simp only [List.mem_cons, List.not_mem_nil, or_false, forall_eq_or_imp, forall_eq] at fn
    obtain ⟨n20, n19, n17, n15, n10, n9, n7, n6, n5, n4, n3, n2, n1⟩ := fn
    rcases hk with rfl | rfl | rfl | rfl | rfl | rfl | rfl | rfl | rfl | rfl | rfl | rfl | rfl
    · exact n1
    · exact n2
    · exact n3
    · exact n4
    · exact n5
    · exact n6
    · exact n7
    · exact n9
    · exact n10
    · exact n15
    · exact n17
    · exact n19
    · exact n20)
  refine bs_astore_n (pc' := 16) (lv' := [(0, _), (1, _), (2, _)]) dL_law_15 rfl rfl rfl rfl ?_
  refine bs_iconst (v := 0) (pc' := 17) dL_law_16 (by decide) rfl ?_
  refine bs_istore_n (pc' := 18) (lv' := [(0, _), (1, _), (2, _), (3, _)]) dL_law_17 rfl rfl rfl ?_
  exact bs_B.more (l_loop hA hL 512 0 0 z0 _ ⟨_, _, mh_mh.symm, C2⟩ rfl (by omega) (by omega) (by omega)) (by decide) (by decide)
end Loop
