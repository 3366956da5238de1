/-! the class's own methods: the small ones -/
section RMain
variable {G : GG} {h0 h : Hp} {β : AB} {B : Nat} {σ κ : MS} {c : Nat}
theorem Rep.M (R : Rep G h0 β (lk σ κ) h) : h (β 0 0 0) = some (.inr (5, [.ref (β 0 1 0), .int (σ 0 0), .ref (β 0 2 0), .int (σ 8 0), .ref (β 0 3 0), .ref (β 0 5 0), .ref (β 0 9 0), .int (σ 12 0), .int (σ 13 0), .int (σ 14 0)])) := R.m
theorem Rep.P (R : Rep G h0 β (lk σ κ) h) {j : Nat} (hj : j < zN (σ 8 0)) : h (β 1 j 0) = some (.inr (3, [.ref (β 2 (zN (σ 9 j)) 0), .int (σ 10 j)])) := R.p hj
theorem Rep.O (R : Rep G h0 β (lk σ κ) h) {a : Nat} (ha : a < zN (σ 0 0)) : h (β 2 a 0) = some (.inr (0, [.int (nI a), .ref (β 3 a 0), .int (σ 2 a)])) := R.o ha
theorem Rep.C1 (R : Rep G h0 β (lk σ κ) h) : h (β 0 3 0) = some (.inr (1, [.ref (β 0 4 0), .int (σ 11 0), .int (κ 16 0)])) := R.b 3 rfl
theorem Rep.S1 (R : Rep G h0 β (lk σ κ) h) : h (β 0 5 0) = some (.inr (4, [.ref (β 0 6 0), .int (σ 18 0), .ref (β 0 7 0), .ref (β 0 8 0), .int (κ 21 0), .int (κ 22 0)])) := R.b 5 rfl
theorem Rep.E (R : Rep G h0 β (lk σ κ) h) (hc : isL σ c) : h (β 4 c 0) = some (.inr (2, [.ref (β 4 c 1), .ref (β 4 c 2), .ref (β 4 c 3), .int (σ 4 c), .int (σ 3 c)])) := R.1 4 c 0 ⟨by decide, isL_lk hc⟩
theorem Rep.e1 (R : Rep G h0 β (lk σ κ) h) (hc : isL σ c) : h (β 4 c 1) = some (.inl (G.2.1 0, 12, .inl (slc (σ 5) c))) := R.1 4 c 1 ⟨by decide, isL_lk hc⟩
theorem Rep.e2 (R : Rep G h0 β (lk σ κ) h) (hc : isL σ c) : h (β 4 c 2) = some (.inl (G.2.1 0, 12, .inl (slc (σ 6) c))) := R.1 4 c 2 ⟨by decide, isL_lk hc⟩
theorem Rep.e3 (R : Rep G h0 β (lk σ κ) h) (hc : isL σ c) : h (β 4 c 3) = some (.inl (G.2.1 0, 12, .inl (slc (κ 7) c))) := R.1 4 c 3 ⟨by decide, isL_lk hc⟩
theorem Rep.aA (R : Rep G h0 β (lk σ κ) h) : h (β 0 1 0) = some (.inl (G.2.1 2, 10, .inr (.inr (.inr (.inr (rfs (zN (σ 0 0)) (fun a => β 2 a 0))))))) := R.b 1 rfl
theorem Rep.aP (R : Rep G h0 β (lk σ κ) h) : h (β 0 2 0) = some (.inl (G.2.1 3, 60, .inr (.inr (.inr (.inr (rfs (zN (σ 8 0)) (fun j => β 1 j 0))))))) := R.b 2 rfl
theorem Rep.aE (R : Rep G h0 β (lk σ κ) h) : h (β 0 9 0) = some (.inl (G.2.1 0, 3, .inl (σ 15))) := R.b 9 rfl
theorem Rep.sL (R : Rep G h0 β (lk σ κ) h) : h (β 0 7 0) = some (.inl (G.2.1 0, 60, .inl (κ 19))) := R.b 7 rfl
theorem Rep.aK (R : Rep G h0 β (lk σ κ) h) {a : Nat} (ha : a < zN (σ 0 0)) : h (β 3 a 0) = some (.inl (G.2.1 4, zN (σ 1 a), .inr (.inr (.inr (.inr (rfs (zN (σ 1 a)) (fun i => β 4 (8 * a + i) 0))))))) := R.k ha
theorem rfs_at {n j : Nat} {g : Nat → Nat} (h : j < n) : rfs n g j = some (g j) := if_pos h
section Rows
variable {X : State → Prop} {M : MI} {d bc bs : Nat} {pc : Nat} {lv : List (Nat × Value)} {st : List Value} {Q : Option Value → Hp → Prop}
theorem lk_u {k i : Nat} {x : Int32} (hk : ¬ (k = 7 ∨ k = 16 ∨ 19 ≤ k)) : ms_u (lk σ κ) k i x = lk (ms_u σ k i x) κ := by
  funext j
  by_cases hj : j = k
  · subst hj
    rw [ms_u_k, lk_s hk, lk_s hk, ms_u_k]
  · rw [ms_u_n hj]
    unfold lk
    rw [ms_u_n hj]
theorem rp_put {idx k fi : Nat} {x : Int32} {pc' : Nat} (R : Rep G h0 β (lk σ κ) h) (hk : (k = 12 ∧ fi = 7) ∨ (k = 13 ∧ fi = 8) ∨ (k = 14 ∧ fi = 9)) (hl : bs_FL M.1.cls idx 5 fi .int false) (hd : decode M.2.1 pc = .ok (.putfield idx, 3)) (hp : pc + 3 = pc') (kk : ∀ h', Rep G h0 β (lk (ms_u σ k 0 x) κ) h' → bs_B G X M d bc bs h' pc' lv st Q) : bs_B G X M d bc bs h pc lv (.int x :: .ref (β 0 0 0) :: st) Q := by
  have R1 := R.put (k := k) (x := x) (by omega)
  rw [lk_u (by omega)] at R1
  rcases hk with ⟨rfl, rfl⟩ | ⟨rfl, rfl⟩ | ⟨rfl, rfl⟩
  · exact bs_putf hl hd R.M rfl rfl rfl hp (kk _ R1)
  · exact bs_putf hl hd R.M rfl rfl rfl hp (kk _ R1)
  · exact bs_putf hl hd R.M rfl rfl rfl hp (kk _ R1)
theorem rp_fr {idx a : Nat} {pc' : Nat} (R : Rep G h0 β (lk σ κ) h) (ha : a < zN (σ 0 0)) (hl : bs_FL M.1.cls idx 0 2 .boolean false) (hd : decode M.2.1 pc = .ok (.putfield idx, 3)) (hp : pc + 3 = pc') (kk : ∀ h', Rep G h0 β (lk (ms_u σ 2 a 1) κ) h' → bs_B G X M d bc bs h' pc' lv st Q) : bs_B G X M d bc bs h pc lv (.int 1 :: .ref (β 2 a 0) :: st) Q := by
  have R1 := R.fr (a := a) (x := 1) ha
  rw [lk_u (by omega)] at R1
  exact bs_putf hl hd (R.O ha) rfl rfl rfl hp (kk _ R1)
theorem rp_er {i : Int32} {j : Nat} {x : Int32} {pc' : Nat} (R : Rep G h0 β (lk σ κ) h) (hd : decode M.2.1 pc = .ok (.iastore, 1)) (hi : i = nI j) (hj : j < 3) (hp : pc + 1 = pc') (kk : ∀ h', Rep G h0 β (lk (ms_u σ 15 j x) κ) h' → bs_B G X M d bc bs h' pc' lv st Q) : bs_B G X M d bc bs h pc lv (.int x :: .int i :: .ref (β 0 9 0) :: st) Q := by
  have R1 := R.er (i := j) (x := x)
  rw [lk_u (by omega)] at R1
  exact bs_ist hd R.aE j hi ⟨hj, by decide⟩ hp (kk _ R1)
theorem rp_val {idx : Nat} {x : Int32} {pc' : Nat} (R : Rep G h0 β (lk σ κ) h) (P : PI B σ κ) (hc : isL σ c) (hl : bs_FL M.1.cls idx 2 4 .int false) (hd : decode M.2.1 pc = .ok (.putfield idx, 3)) (hp : pc + 3 = pc') (kk : ∀ h', Rep G h0 β (lk (ms_u σ 3 c x) κ) h' → bs_B G X M d bc bs h' pc' lv st Q) : bs_B G X M d bc bs h pc lv (.int x :: .ref (β 4 c 0) :: st) Q := by
  have R1 := R.v (x := x) P hc
  have := ce_pt4 (G := G) (X := X) (h := h) (e := β 4 c 0) (t := β 4 c 1) (p := β 4 c 2) (q := β 4 c 3) (tg := slc (σ 5) c) (pm := slc (σ 6) c) (pr := slc (κ 7) c) (n := nI (zN (σ 4 c))) (v := σ 3 c) hl hd hp (kk _ R1)
  rw [show ce4 G h (β 4 c 0) (β 4 c 1) (β 4 c 2) (β 4 c 3) (slc (σ 5) c) (slc (σ 6) c) (slc (κ 7) c) (nI (zN (σ 4 c))) (σ 3 c) = h from R.cHE P hc] at this
  exact this
end Rows
def rg (fr ct : Int32) (n : Nat) : Bool := decide (0 ≤ fr ∧ fr < nI n ∧ 1 ≤ ct ∧ ct ≤ nI n - fr)
theorem ra_hasRange {a : Nat} {fr ct : Int32} (R : Rep G h0 β (lk σ κ) h) (ha : a < zN (σ 0 0)) : bs_Sp G mX0_hasRange 0 0 0 [.ref (β 2 a 0), .int fr, .int ct] h (cQ h (bI (rg fr ct (zN (σ 1 a))))) := by
  refine bs_Sp.of (by decide) rfl ?_
  refine bs_iload_n (pc' := 1) dX0_hasRange_0 rfl rfl ?_
  refine bs_if_lt (tgt := 33) (pc' := 4) dX0_hasRange_1 rfl rfl (fun c1 => ?_) (fun c1 => ?_)
  · have hv : rg fr ct (zN (σ 1 a)) = false := by
      rw [rg, decide_eq_false_iff_not]
      rintro ⟨y1, y2, y3, y4⟩
      first | exact absurd y1 (Int32.not_le.mpr c1) | exact absurd y2 (Int32.not_lt.mpr c10) | exact absurd y3 (Int32.not_le.mpr c15) | exact absurd y4 (Int32.not_le.mpr c26)
    refine bs_iconst (v := 0) (pc' := 34) dX0_hasRange_33 (by decide) rfl ?_
    exact bs_zret dX0_hasRange_34 rfl (by decide) ⟨by rw [hv]; rfl, rfl⟩
  · refine bs_iload_n (pc' := 5) dX0_hasRange_4 rfl rfl ?_
    refine bs_aload_n (pc' := 6) dX0_hasRange_5 rfl rfl rfl ?_
    refine bs_getf (pc' := 9) kf_X0_17 dX0_hasRange_6 (R.O ha) rfl rfl ?_
    refine bs_alen (pc' := 10) dX0_hasRange_9 (R.aK ha) rfl rfl ?_
    refine bs_icmp_ge (tgt := 33) (pc' := 13) dX0_hasRange_10 rfl rfl (fun c10 => ?_) (fun c10 => ?_)
    · have hv : rg fr ct (zN (σ 1 a)) = false := by
        rw [rg, decide_eq_false_iff_not]
        rintro ⟨y1, y2, y3, y4⟩
        first | exact absurd y1 (Int32.not_le.mpr c1) | exact absurd y2 (Int32.not_lt.mpr c10) | exact absurd y3 (Int32.not_le.mpr c15) | exact absurd y4 (Int32.not_le.mpr c26)
      refine bs_iconst (v := 0) (pc' := 34) dX0_hasRange_33 (by decide) rfl ?_
      exact bs_zret dX0_hasRange_34 rfl (by decide) ⟨by rw [hv]; rfl, rfl⟩
    · refine bs_iload_n (pc' := 14) dX0_hasRange_13 rfl rfl ?_
      refine bs_iconst (v := 1) (pc' := 15) dX0_hasRange_14 (by decide) rfl ?_
      refine bs_icmp_lt (tgt := 33) (pc' := 18) dX0_hasRange_15 rfl rfl (fun c15 => ?_) (fun c15 => ?_)
      · have hv : rg fr ct (zN (σ 1 a)) = false := by
          rw [rg, decide_eq_false_iff_not]
          rintro ⟨y1, y2, y3, y4⟩
          first | exact absurd y1 (Int32.not_le.mpr c1) | exact absurd y2 (Int32.not_lt.mpr c10) | exact absurd y3 (Int32.not_le.mpr c15) | exact absurd y4 (Int32.not_le.mpr c26)
        refine bs_iconst (v := 0) (pc' := 34) dX0_hasRange_33 (by decide) rfl ?_
        exact bs_zret dX0_hasRange_34 rfl (by decide) ⟨by rw [hv]; rfl, rfl⟩
      · refine bs_iload_n (pc' := 19) dX0_hasRange_18 rfl rfl ?_
        refine bs_aload_n (pc' := 20) dX0_hasRange_19 rfl rfl rfl ?_
        refine bs_getf (pc' := 23) kf_X0_17 dX0_hasRange_20 (R.O ha) rfl rfl ?_
        refine bs_alen (pc' := 24) dX0_hasRange_23 (R.aK ha) rfl rfl ?_
        refine bs_iload_n (pc' := 25) dX0_hasRange_24 rfl rfl ?_
        refine bs_isub (pc' := 26) dX0_hasRange_25 rfl ?_
        refine bs_icmp_gt (tgt := 33) (pc' := 29) dX0_hasRange_26 rfl rfl (fun c26 => ?_) (fun c26 => ?_)
        · have hv : rg fr ct (zN (σ 1 a)) = false := by
            rw [rg, decide_eq_false_iff_not]
            rintro ⟨y1, y2, y3, y4⟩
            first | exact absurd y1 (Int32.not_le.mpr c1) | exact absurd y2 (Int32.not_lt.mpr c10) | exact absurd y3 (Int32.not_le.mpr c15) | exact absurd y4 (Int32.not_le.mpr c26)
          refine bs_iconst (v := 0) (pc' := 34) dX0_hasRange_33 (by decide) rfl ?_
          exact bs_zret dX0_hasRange_34 rfl (by decide) ⟨by rw [hv]; rfl, rfl⟩
        · have hv : rg fr ct (zN (σ 1 a)) = true := by
            rw [rg, decide_eq_true_eq]
            exact ⟨Int32.not_lt.mp c1, Int32.not_le.mp c10, Int32.not_lt.mp c15, Int32.not_lt.mp c26⟩
          refine bs_iconst (v := 1) (pc' := 30) dX0_hasRange_29 (by decide) rfl ?_
          refine bs_goto (tgt := 34) dX0_hasRange_30 rfl ?_
          exact bs_zret dX0_hasRange_34 rfl (by decide) ⟨by rw [hv]; rfl, rfl⟩
theorem rg_1 {x : Int32} {n : Nat} (hn : n ≤ 8) : rg x 1 n = inb x n := by
  rw [inb_lt (by omega), rg, decide_eq_decide]
  constructor
  · rintro ⟨y1, y2, -, -⟩; exact ⟨y1, y2⟩
  · rintro ⟨y1, y2⟩
    refine ⟨y1, y2, by decide, ?_⟩
    obtain ⟨j, hj, rfl⟩ := nI_of (x := x) (by rw [Int32.not_lt]; exact y1)
    rw [nI_ltI hj (by omega)] at y2
    rw [pk_sub (by omega), show (1 : Int32) = nI 1 from rfl]
    exact nI_le (by omega) (by omega)
theorem r_pointerAt {j : Nat} (R : Rep G h0 β (lk σ κ) h) (P : PI B σ κ) (hj : j < zN (σ 8 0)) : bs_Sp G mX5_pointerAt 0 0 0 [.ref (β 0 0 0), .int (nI j)] h (fun v h' => v = some (.ref (β 1 j 0)) ∧ h' = h) := by
  have h60 := P.inv.p60 hj
  refine bs_Sp.of (by decide) rfl ?_
  refine bs_iload_n (pc' := 1) dX5_pointerAt_0 rfl rfl ?_
  refine bs_if_lt (tgt := 21) (pc' := 4) dX5_pointerAt_1 rfl rfl (fun c1 => absurd c1 (Int32.not_lt.mpr (nI_pos' (by omega)))) (fun _ => ?_)
  refine bs_iload_n (pc' := 5) dX5_pointerAt_4 rfl rfl ?_
  refine bs_aload_n (pc' := 6) dX5_pointerAt_5 rfl rfl rfl ?_
  refine bs_getf (pc' := 9) kf_X5_146 dX5_pointerAt_6 R.M rfl rfl ?_
  refine bs_icmp_ge (tgt := 21) (pc' := 12) dX5_pointerAt_9 rfl rfl (fun c9 => absurd c9 (by rw [P.inv.nP.1, Int32.not_le]; exact nI_lt hj (by have := P.inv.nP.2; omega))) (fun _ => ?_)
  refine bs_aload_n (pc' := 13) dX5_pointerAt_12 rfl rfl rfl ?_
  refine bs_getf (pc' := 16) kf_X5_17 dX5_pointerAt_13 R.M rfl rfl ?_
  refine bs_iload_n (pc' := 17) dX5_pointerAt_16 rfl rfl ?_
  refine bs_rld (pc' := 18) dX5_pointerAt_17 R.aP (by decide) j rfl ⟨h60, by decide⟩ _ (rfs_at hj) rfl ?_
  refine bs_goto (tgt := 22) dX5_pointerAt_18 rfl ?_
  exact bs_aret dX5_pointerAt_22 rfl ⟨rfl, rfl⟩
theorem inb_f {x : Int32} {n : Nat} {y : Int32} (hn : n < 2 ^ 31) (hy : y = nI n) (h : inb x n = false) : x < 0 ∨ y ≤ x := by
  rw [inb_lt hn, decide_eq_false_iff_not] at h
  rw [hy]
  by_cases z : x < 0
  · exact Or.inl z
  · exact Or.inr (Int32.not_lt.mp (fun w => h ⟨Int32.not_lt.mp z, w⟩))
theorem r_pointerAtN {x : Int32} (R : Rep G h0 β (lk σ κ) h) (P : PI B σ κ) (hx : inb x (zN (σ 8 0)) = false) : bs_Sp G mX5_pointerAt 0 0 0 [.ref (β 0 0 0), .int x] h (fun v h' => v = some .null ∧ h' = h) := by
  have h60 := P.inv.nP.2
  have hq := inb_f (by omega) P.inv.nP.1 hx
  refine bs_Sp.of (by decide) rfl ?_
  refine bs_iload_n (pc' := 1) dX5_pointerAt_0 rfl rfl ?_
  refine bs_if_lt (tgt := 21) (pc' := 4) dX5_pointerAt_1 rfl rfl (fun c1 => ?_) (fun c1 => ?_)
  · refine bs_null (pc' := 22) dX5_pointerAt_21 rfl ?_
    exact bs_aretN dX5_pointerAt_22 rfl ⟨rfl, rfl⟩
  · refine bs_iload_n (pc' := 5) dX5_pointerAt_4 rfl rfl ?_
    refine bs_aload_n (pc' := 6) dX5_pointerAt_5 rfl rfl rfl ?_
    refine bs_getf (pc' := 9) kf_X5_146 dX5_pointerAt_6 R.M rfl rfl ?_
    refine bs_icmp_ge (tgt := 21) (pc' := 12) dX5_pointerAt_9 rfl rfl (fun c9 => ?_) (fun c9 => ?_)
    · refine bs_null (pc' := 22) dX5_pointerAt_21 rfl ?_
      exact bs_aretN dX5_pointerAt_22 rfl ⟨rfl, rfl⟩
    · exact absurd hq (fun q => q.elim c1 c9)
theorem r_allocationAt {a : Nat} (R : Rep G h0 β (lk σ κ) h) (P : PI B σ κ) (ha : a < zN (σ 0 0)) : bs_Sp G mX5_allocationAt 0 0 0 [.ref (β 0 0 0), .int (nI a)] h (fun v h' => v = some (.ref (β 2 a 0)) ∧ h' = h) := by
  have h10 := P.inv.nA.2
  refine bs_Sp.of (by decide) rfl ?_
  refine bs_iload_n (pc' := 1) dX5_allocationAt_0 rfl rfl ?_
  refine bs_if_lt (tgt := 21) (pc' := 4) dX5_allocationAt_1 rfl rfl (fun c1 => absurd c1 (Int32.not_lt.mpr (nI_pos' (by omega)))) (fun _ => ?_)
  refine bs_iload_n (pc' := 5) dX5_allocationAt_4 rfl rfl ?_
  refine bs_aload_n (pc' := 6) dX5_allocationAt_5 rfl rfl rfl ?_
  refine bs_getf (pc' := 9) kf_X5_179 dX5_allocationAt_6 R.M rfl rfl ?_
  refine bs_icmp_ge (tgt := 21) (pc' := 12) dX5_allocationAt_9 rfl rfl (fun c9 => absurd c9 (by rw [P.inv.nA.1, Int32.not_le]; exact nI_lt ha (by omega))) (fun _ => ?_)
  refine bs_aload_n (pc' := 13) dX5_allocationAt_12 rfl rfl rfl ?_
  refine bs_getf (pc' := 16) kf_X5_11 dX5_allocationAt_13 R.M rfl rfl ?_
  refine bs_iload_n (pc' := 17) dX5_allocationAt_16 rfl rfl ?_
  refine bs_rld (pc' := 18) dX5_allocationAt_17 R.aA (by decide) a rfl ⟨by omega, by decide⟩ _ (rfs_at ha) rfl ?_
  refine bs_goto (tgt := 22) dX5_allocationAt_18 rfl ?_
  exact bs_aret dX5_allocationAt_22 rfl ⟨rfl, rfl⟩
theorem r_allocationAtN {x : Int32} (R : Rep G h0 β (lk σ κ) h) (P : PI B σ κ) (hx : inb x (zN (σ 0 0)) = false) : bs_Sp G mX5_allocationAt 0 0 0 [.ref (β 0 0 0), .int x] h (fun v h' => v = some .null ∧ h' = h) := by
  have h10 := P.inv.nA.2
  have hq := inb_f (by omega) P.inv.nA.1 hx
  refine bs_Sp.of (by decide) rfl ?_
  refine bs_iload_n (pc' := 1) dX5_allocationAt_0 rfl rfl ?_
  refine bs_if_lt (tgt := 21) (pc' := 4) dX5_allocationAt_1 rfl rfl (fun c1 => ?_) (fun c1 => ?_)
  · refine bs_null (pc' := 22) dX5_allocationAt_21 rfl ?_
    exact bs_aretN dX5_allocationAt_22 rfl ⟨rfl, rfl⟩
  · refine bs_iload_n (pc' := 5) dX5_allocationAt_4 rfl rfl ?_
    refine bs_aload_n (pc' := 6) dX5_allocationAt_5 rfl rfl rfl ?_
    refine bs_getf (pc' := 9) kf_X5_179 dX5_allocationAt_6 R.M rfl rfl ?_
    refine bs_icmp_ge (tgt := 21) (pc' := 12) dX5_allocationAt_9 rfl rfl (fun c9 => ?_) (fun c9 => ?_)
    · refine bs_null (pc' := 22) dX5_allocationAt_21 rfl ?_
      exact bs_aretN dX5_allocationAt_22 rfl ⟨rfl, rfl⟩
    · exact absurd hq (fun q => q.elim c1 c9)
theorem r_cellThroughN {x : Int32} : bs_Sp G mX5_cellThrough 1 0 0 [.null, .int x] h (fun v h' => v = some .null ∧ h' = h) := by
  refine bs_Sp.of (by decide) rfl ?_
  refine bs_aload_n (pc' := 1) dX5_cellThrough_0 rfl rfl rfl ?_
  refine bs_ifnullN (tgt := 28) dX5_cellThrough_1 rfl ?_
  refine bs_null (pc' := 29) dX5_cellThrough_28 rfl ?_
  exact bs_aretN dX5_cellThrough_29 rfl ⟨rfl, rfl⟩
theorem r_cellThroughO {j : Nat} {x : Int32} (R : Rep G h0 β (lk σ κ) h) (P : PI B σ κ) (hj : j < zN (σ 8 0)) (hx : inb x (zN (σ 1 (zN (σ 9 j)))) = false) : bs_Sp G mX5_cellThrough 1 0 0 [.ref (β 1 j 0), .int x] h (fun v h' => v = some .null ∧ h' = h) := by
  have ha := (P.inv.ow hj).2
  have h8 := (P.inv.cl ha).1.2
  refine bs_Sp.of (by decide) rfl ?_
  refine bs_aload_n (pc' := 1) dX5_cellThrough_0 rfl rfl rfl ?_
  refine bs_ifnull (pc' := 4) dX5_cellThrough_1 rfl ?_
  refine bs_aload_n (pc' := 5) dX5_cellThrough_4 rfl rfl rfl ?_
  refine bs_getf (pc' := 8) kf_X5_83 dX5_cellThrough_5 (R.P hj) rfl rfl ?_
  refine bs_iload_n (pc' := 9) dX5_cellThrough_8 rfl rfl ?_
  refine bs_iconst (v := 1) (pc' := 10) dX5_cellThrough_9 (by decide) rfl ?_
  refine bs_callV (N := mX0_hasRange) (pc' := 13) dX5_cellThrough_10 km_X5_215 ko_X0_hasRange (ra_hasRange R ha) (R.O ha) rfl rfl rfl (by omega) (Nat.le_refl _) (Nat.le_refl _) rfl ?_
  rintro _ _ ⟨rfl, rfl⟩
  refine bs_if_eq (tgt := 28) (pc' := 16) dX5_cellThrough_13 rfl rfl (fun _ => ?_) (fun c13 => absurd (by rw [rg_1 h8, hx]; rfl) c13)
  refine bs_null (pc' := 29) dX5_cellThrough_28 rfl ?_
  exact bs_aretN dX5_cellThrough_29 rfl ⟨rfl, rfl⟩
theorem r_cellThrough {j i : Nat} (R : Rep G h0 β (lk σ κ) h) (P : PI B σ κ) (hi : isPc σ j i) : bs_Sp G mX5_cellThrough 1 0 0 [.ref (β 1 j 0), .int (nI i)] h (fun v h' => v = some (.ref (β 4 (cO σ j i) 0)) ∧ h' = h) := by
  have hj := hi.1
  have ha := (P.inv.ow hj).2
  have h8 := (P.inv.cl ha).1.2
  have h9 := hi.2
  refine bs_Sp.of (by decide) rfl ?_
  refine bs_aload_n (pc' := 1) dX5_cellThrough_0 rfl rfl rfl ?_
  refine bs_ifnull (pc' := 4) dX5_cellThrough_1 rfl ?_
  refine bs_aload_n (pc' := 5) dX5_cellThrough_4 rfl rfl rfl ?_
  refine bs_getf (pc' := 8) kf_X5_83 dX5_cellThrough_5 (R.P hj) rfl rfl ?_
  refine bs_iload_n (pc' := 9) dX5_cellThrough_8 rfl rfl ?_
  refine bs_iconst (v := 1) (pc' := 10) dX5_cellThrough_9 (by decide) rfl ?_
  refine bs_callV (N := mX0_hasRange) (pc' := 13) dX5_cellThrough_10 km_X5_215 ko_X0_hasRange (ra_hasRange R ha) (R.O ha) rfl rfl rfl (by omega) (Nat.le_refl _) (Nat.le_refl _) rfl ?_
  rintro _ _ ⟨rfl, rfl⟩
  refine bs_if_eq (tgt := 28) (pc' := 16) dX5_cellThrough_13 rfl rfl (fun c13 => absurd c13 (by rw [rg_1 h8, inb_nI hi.2 (by omega)]; decide)) (fun _ => ?_)
  refine bs_aload_n (pc' := 17) dX5_cellThrough_16 rfl rfl rfl ?_
  refine bs_getf (pc' := 20) kf_X5_83 dX5_cellThrough_17 (R.P hj) rfl rfl ?_
  refine bs_getf (pc' := 23) kf_X5_219 dX5_cellThrough_20 (R.O ha) rfl rfl ?_
  refine bs_iload_n (pc' := 24) dX5_cellThrough_23 rfl rfl ?_
  refine bs_rld (pc' := 25) dX5_cellThrough_24 (R.aK ha) (by decide) i rfl ⟨hi.2, by omega⟩ _ (rfs_at hi.2) rfl ?_
  refine bs_goto (tgt := 29) dX5_cellThrough_25 rfl ?_
  exact bs_aret dX5_cellThrough_29 rfl ⟨rfl, rfl⟩
theorem r_cellAtN {x y : Int32} (R : Rep G h0 β (lk σ κ) h) (P : PI B σ κ) (hx : isA σ x y = false) : bs_Sp G mX5_cellAt 1 0 0 [.ref (β 0 0 0), .int x, .int y] h (fun v h' => v = some .null ∧ h' = h) := by
  have h10 := P.inv.nA.2
  by_cases hq : inb x (zN (σ 0 0)) = true
  · obtain ⟨a, ha, rfl⟩ := inb_t (by omega) hq
    have h8 := (P.inv.cl ha).1.2
    have hy : inb y (zN (σ 1 a)) = false := by
      unfold isA at hx
      rw [hq, zN_nI (by omega), Bool.true_and] at hx
      exact hx
    refine bs_Sp.of (by decide) rfl ?_
    refine bs_aload_n (pc' := 1) dX5_cellAt_0 rfl rfl rfl ?_
    refine bs_iload_n (pc' := 2) dX5_cellAt_1 rfl rfl ?_
    refine bs_callV (N := mX5_allocationAt) (pc' := 5) dX5_cellAt_2 km_X5_142 ko_X5_allocationAt (r_allocationAt R P ha) R.M rfl rfl rfl (by omega) (Nat.le_refl _) (Nat.le_refl _) rfl ?_
    rintro _ _ ⟨rfl, rfl⟩
    refine bs_astore_n (pc' := 6) (lv' := [(0, _), (1, _), (2, _), (3, _)]) dX5_cellAt_5 rfl rfl rfl rfl ?_
    refine bs_aload_n (pc' := 7) dX5_cellAt_6 rfl rfl rfl ?_
    refine bs_ifnull (pc' := 10) dX5_cellAt_7 rfl ?_
    refine bs_aload_n (pc' := 11) dX5_cellAt_10 rfl rfl rfl ?_
    refine bs_iload_n (pc' := 12) dX5_cellAt_11 rfl rfl ?_
    refine bs_iconst (v := 1) (pc' := 13) dX5_cellAt_12 (by decide) rfl ?_
    refine bs_callV (N := mX0_hasRange) (pc' := 16) dX5_cellAt_13 km_X5_215 ko_X0_hasRange (ra_hasRange R ha) (R.O ha) rfl rfl rfl (by omega) (Nat.le_refl _) (Nat.le_refl _) rfl ?_
    rintro _ _ ⟨rfl, rfl⟩
    refine bs_if_eq (tgt := 28) (pc' := 19) dX5_cellAt_16 rfl rfl (fun _ => ?_) (fun c16 => absurd (by rw [rg_1 h8, hy]; rfl) c16)
    refine bs_null (pc' := 29) dX5_cellAt_28 rfl ?_
    exact bs_aretN dX5_cellAt_29 rfl ⟨rfl, rfl⟩
  · refine bs_Sp.of (by decide) rfl ?_
    refine bs_aload_n (pc' := 1) dX5_cellAt_0 rfl rfl rfl ?_
    refine bs_iload_n (pc' := 2) dX5_cellAt_1 rfl rfl ?_
    refine bs_callV (N := mX5_allocationAt) (pc' := 5) dX5_cellAt_2 km_X5_142 ko_X5_allocationAt (r_allocationAtN R P (by simpa using hq)) R.M rfl rfl rfl (by omega) (Nat.le_refl _) (Nat.le_refl _) rfl ?_
    rintro _ _ ⟨rfl, rfl⟩
    refine bs_astore_n (pc' := 6) (lv' := [(0, _), (1, _), (2, _), (3, _)]) dX5_cellAt_5 rfl rfl rfl rfl ?_
    refine bs_aload_n (pc' := 7) dX5_cellAt_6 rfl rfl rfl ?_
    refine bs_ifnullN (tgt := 28) dX5_cellAt_7 rfl ?_
    refine bs_null (pc' := 29) dX5_cellAt_28 rfl ?_
    exact bs_aretN dX5_cellAt_29 rfl ⟨rfl, rfl⟩
theorem r_cellAt {a i : Nat} (R : Rep G h0 β (lk σ κ) h) (P : PI B σ κ) (ha : a < zN (σ 0 0)) (hi : i < zN (σ 1 a)) : bs_Sp G mX5_cellAt 1 0 0 [.ref (β 0 0 0), .int (nI a), .int (nI i)] h (fun v h' => v = some (.ref (β 4 (8 * a + i) 0)) ∧ h' = h) := by
  have h10 := P.inv.nA.2
  have h8 := (P.inv.cl ha).1.2
  refine bs_Sp.of (by decide) rfl ?_
  refine bs_aload_n (pc' := 1) dX5_cellAt_0 rfl rfl rfl ?_
  refine bs_iload_n (pc' := 2) dX5_cellAt_1 rfl rfl ?_
  refine bs_callV (N := mX5_allocationAt) (pc' := 5) dX5_cellAt_2 km_X5_142 ko_X5_allocationAt (r_allocationAt R P ha) R.M rfl rfl rfl (by omega) (Nat.le_refl _) (Nat.le_refl _) rfl ?_
  rintro _ _ ⟨rfl, rfl⟩
  refine bs_astore_n (pc' := 6) (lv' := [(0, _), (1, _), (2, _), (3, _)]) dX5_cellAt_5 rfl rfl rfl rfl ?_
  refine bs_aload_n (pc' := 7) dX5_cellAt_6 rfl rfl rfl ?_
  refine bs_ifnull (pc' := 10) dX5_cellAt_7 rfl ?_
  refine bs_aload_n (pc' := 11) dX5_cellAt_10 rfl rfl rfl ?_
  refine bs_iload_n (pc' := 12) dX5_cellAt_11 rfl rfl ?_
  refine bs_iconst (v := 1) (pc' := 13) dX5_cellAt_12 (by decide) rfl ?_
  refine bs_callV (N := mX0_hasRange) (pc' := 16) dX5_cellAt_13 km_X5_215 ko_X0_hasRange (ra_hasRange R ha) (R.O ha) rfl rfl rfl (by omega) (Nat.le_refl _) (Nat.le_refl _) rfl ?_
  rintro _ _ ⟨rfl, rfl⟩
  refine bs_if_eq (tgt := 28) (pc' := 19) dX5_cellAt_16 rfl rfl (fun c16 => absurd c16 (by rw [rg_1 h8, inb_nI hi (by omega)]; decide)) (fun _ => ?_)
  refine bs_aload_n (pc' := 20) dX5_cellAt_19 rfl rfl rfl ?_
  refine bs_getf (pc' := 23) kf_X5_219 dX5_cellAt_20 (R.O ha) rfl rfl ?_
  refine bs_iload_n (pc' := 24) dX5_cellAt_23 rfl rfl ?_
  refine bs_rld (pc' := 25) dX5_cellAt_24 (R.aK ha) (by decide) i rfl ⟨hi, by omega⟩ _ (rfs_at hi) rfl ?_
  refine bs_goto (tgt := 29) dX5_cellAt_25 rfl ?_
  exact bs_aret dX5_cellAt_29 rfl ⟨rfl, rfl⟩
theorem r_counted {x : Int32} (R : Rep G h0 β (lk σ κ) h) (h16 : σ 16 0 = 0) : bs_Sp G mX5_counted 0 0 0 [.ref (β 0 0 0), .int x] h (fun v h' => v = some (.int x) ∧ Rep G h0 β (lk (fin (x, σ)).2 κ) h') := by
  by_cases h2 : x = -2
  · subst h2
    refine bs_Sp.of (by decide) rfl ?_
    refine bs_bipush (v := (-2)) (pc' := 2) dX5_counted_0 (by decide) rfl ?_
    refine bs_iload_n (pc' := 3) dX5_counted_2 rfl rfl ?_
    refine bs_isub (pc' := 4) dX5_counted_3 rfl ?_
    refine bs_istore_n (pc' := 5) (lv' := [(0, _), (1, _), (2, _)]) dX5_counted_4 rfl rfl rfl ?_
    refine bs_iload_n (pc' := 6) dX5_counted_5 rfl rfl ?_
    refine bs_if_lt (tgt := 24) (pc' := 9) dX5_counted_6 rfl rfl (fun c6 => absurd c6 (by decide)) (fun _ => ?_)
    refine bs_iload_n (pc' := 10) dX5_counted_9 rfl rfl ?_
    refine bs_iconst (v := 3) (pc' := 11) dX5_counted_10 (by decide) rfl ?_
    refine bs_icmp_ge (tgt := 24) (pc' := 14) dX5_counted_11 rfl rfl (fun c11 => absurd c11 (by decide)) (fun _ => ?_)
    refine bs_aload_n (pc' := 15) dX5_counted_14 rfl rfl rfl ?_
    refine bs_getf (pc' := 18) kf_X5_35 dX5_counted_15 R.M rfl rfl ?_
    refine bs_iload_n (pc' := 19) dX5_counted_18 rfl rfl ?_
    refine bs_dup2 (pc' := 20) dX5_counted_19 rfl rfl rfl ?_
    refine bs_ild (pc' := 21) dX5_counted_20 R.aE 0 rfl ⟨by decide, by decide⟩ rfl ?_
    refine bs_iconst (v := 1) (pc' := 22) dX5_counted_21 (by decide) rfl ?_
    refine bs_iadd (pc' := 23) dX5_counted_22 rfl ?_
    refine rp_er (j := 0) (pc' := 24) R dX5_counted_23 rfl (by decide) rfl (fun h R => ?_)
    refine bs_iload_n (pc' := 25) dX5_counted_24 rfl rfl ?_
    refine bs_iret dX5_counted_25 rfl ⟨rfl, ?_⟩
    rw [fin_2, err, h16, if_pos rfl]
    exact R
  · by_cases h3 : x = -3
    · subst h3
      refine bs_Sp.of (by decide) rfl ?_
      refine bs_bipush (v := (-2)) (pc' := 2) dX5_counted_0 (by decide) rfl ?_
      refine bs_iload_n (pc' := 3) dX5_counted_2 rfl rfl ?_
      refine bs_isub (pc' := 4) dX5_counted_3 rfl ?_
      refine bs_istore_n (pc' := 5) (lv' := [(0, _), (1, _), (2, _)]) dX5_counted_4 rfl rfl rfl ?_
      refine bs_iload_n (pc' := 6) dX5_counted_5 rfl rfl ?_
      refine bs_if_lt (tgt := 24) (pc' := 9) dX5_counted_6 rfl rfl (fun c6 => absurd c6 (by decide)) (fun _ => ?_)
      refine bs_iload_n (pc' := 10) dX5_counted_9 rfl rfl ?_
      refine bs_iconst (v := 3) (pc' := 11) dX5_counted_10 (by decide) rfl ?_
      refine bs_icmp_ge (tgt := 24) (pc' := 14) dX5_counted_11 rfl rfl (fun c11 => absurd c11 (by decide)) (fun _ => ?_)
      refine bs_aload_n (pc' := 15) dX5_counted_14 rfl rfl rfl ?_
      refine bs_getf (pc' := 18) kf_X5_35 dX5_counted_15 R.M rfl rfl ?_
      refine bs_iload_n (pc' := 19) dX5_counted_18 rfl rfl ?_
      refine bs_dup2 (pc' := 20) dX5_counted_19 rfl rfl rfl ?_
      refine bs_ild (pc' := 21) dX5_counted_20 R.aE 1 rfl ⟨by decide, by decide⟩ rfl ?_
      refine bs_iconst (v := 1) (pc' := 22) dX5_counted_21 (by decide) rfl ?_
      refine bs_iadd (pc' := 23) dX5_counted_22 rfl ?_
      refine rp_er (j := 1) (pc' := 24) R dX5_counted_23 rfl (by decide) rfl (fun h R => ?_)
      refine bs_iload_n (pc' := 25) dX5_counted_24 rfl rfl ?_
      refine bs_iret dX5_counted_25 rfl ⟨rfl, ?_⟩
      rw [fin_3, err, h16, if_pos rfl]
      exact R
    · by_cases h4 : x = -4
      · subst h4
        refine bs_Sp.of (by decide) rfl ?_
        refine bs_bipush (v := (-2)) (pc' := 2) dX5_counted_0 (by decide) rfl ?_
        refine bs_iload_n (pc' := 3) dX5_counted_2 rfl rfl ?_
        refine bs_isub (pc' := 4) dX5_counted_3 rfl ?_
        refine bs_istore_n (pc' := 5) (lv' := [(0, _), (1, _), (2, _)]) dX5_counted_4 rfl rfl rfl ?_
        refine bs_iload_n (pc' := 6) dX5_counted_5 rfl rfl ?_
        refine bs_if_lt (tgt := 24) (pc' := 9) dX5_counted_6 rfl rfl (fun c6 => absurd c6 (by decide)) (fun _ => ?_)
        refine bs_iload_n (pc' := 10) dX5_counted_9 rfl rfl ?_
        refine bs_iconst (v := 3) (pc' := 11) dX5_counted_10 (by decide) rfl ?_
        refine bs_icmp_ge (tgt := 24) (pc' := 14) dX5_counted_11 rfl rfl (fun c11 => absurd c11 (by decide)) (fun _ => ?_)
        refine bs_aload_n (pc' := 15) dX5_counted_14 rfl rfl rfl ?_
        refine bs_getf (pc' := 18) kf_X5_35 dX5_counted_15 R.M rfl rfl ?_
        refine bs_iload_n (pc' := 19) dX5_counted_18 rfl rfl ?_
        refine bs_dup2 (pc' := 20) dX5_counted_19 rfl rfl rfl ?_
        refine bs_ild (pc' := 21) dX5_counted_20 R.aE 2 rfl ⟨by decide, by decide⟩ rfl ?_
        refine bs_iconst (v := 1) (pc' := 22) dX5_counted_21 (by decide) rfl ?_
        refine bs_iadd (pc' := 23) dX5_counted_22 rfl ?_
        refine rp_er (j := 2) (pc' := 24) R dX5_counted_23 rfl (by decide) rfl (fun h R => ?_)
        refine bs_iload_n (pc' := 25) dX5_counted_24 rfl rfl ?_
        refine bs_iret dX5_counted_25 rfl ⟨rfl, ?_⟩
        rw [fin_4, err, h16, if_pos rfl]
        exact R
      · have e : (fin (x, σ)).2 = σ := by
          unfold fin
          show (if x = -2 then _ else if x = -3 then _ else if x = -4 then _ else _) = _
          rw [if_neg h2, if_neg h3, if_neg h4]
        have hout : -2 - x < 0 ∨ 3 ≤ -2 - x := by
          by_cases z : -2 - x < 0
          · exact Or.inl z
          · refine Or.inr (Int32.not_lt.mp (fun w => ?_))
            obtain ⟨j, hj, e1⟩ := nI_of z
            rw [e1, show (3 : Int32) = nI 3 from rfl, nI_ltI hj (by decide)] at w
            have ex : x = -2 - nI j := by
              rw [← e1, ← Int32.toInt_inj, Int32.toInt_sub, Int32.toInt_sub]
              have b1 := Int32.toInt_lt x
              have b2 := Int32.le_toInt x
              simp only [Int.bmod, Int32.reduceToInt]
              omega
            have : j = 0 ∨ j = 1 ∨ j = 2 := by omega
            rcases this with rfl | rfl | rfl
            · exact h2 ex
            · exact h3 ex
            · exact h4 ex
        rw [e]
        refine bs_Sp.of (by decide) rfl ?_
        refine bs_bipush (v := (-2)) (pc' := 2) dX5_counted_0 (by decide) rfl ?_
        refine bs_iload_n (pc' := 3) dX5_counted_2 rfl rfl ?_
        refine bs_isub (pc' := 4) dX5_counted_3 rfl ?_
        refine bs_istore_n (pc' := 5) (lv' := [(0, _), (1, _), (2, _)]) dX5_counted_4 rfl rfl rfl ?_
        refine bs_iload_n (pc' := 6) dX5_counted_5 rfl rfl ?_
        refine bs_if_lt (tgt := 24) (pc' := 9) dX5_counted_6 rfl rfl (fun c6 => ?_) (fun c6 => ?_)
        · refine bs_iload_n (pc' := 25) dX5_counted_24 rfl rfl ?_
          exact bs_iret dX5_counted_25 rfl ⟨rfl, R⟩
        · refine bs_iload_n (pc' := 10) dX5_counted_9 rfl rfl ?_
          refine bs_iconst (v := 3) (pc' := 11) dX5_counted_10 (by decide) rfl ?_
          refine bs_icmp_ge (tgt := 24) (pc' := 14) dX5_counted_11 rfl rfl (fun c11 => ?_) (fun c11 => ?_)
          · refine bs_iload_n (pc' := 25) dX5_counted_24 rfl rfl ?_
            exact bs_iret dX5_counted_25 rfl ⟨rfl, R⟩
          · exact absurd hout (fun q => q.elim c6 c11)
theorem r_violated {kd cl : Int32} (R : Rep G h0 β (lk σ κ) h) : bs_Sp G mX5_violated 0 0 0 [.ref (β 0 0 0), .int kd, .int cl] h (fun v h' => v = some (.int (-5)) ∧ Rep G h0 β (lk (vio σ kd cl) κ) h') := by
  refine bs_Sp.of (by decide) rfl ?_
  refine bs_aload_n (pc' := 1) dX5_violated_0 rfl rfl rfl ?_
  refine bs_dup (pc' := 2) dX5_violated_1 rfl rfl ?_
  refine bs_getf (pc' := 5) kf_X5_152 dX5_violated_2 R.M rfl rfl ?_
  refine bs_iconst (v := 1) (pc' := 6) dX5_violated_5 (by decide) rfl ?_
  refine bs_iadd (pc' := 7) dX5_violated_6 rfl ?_
  refine rp_put (k := 12) (fi := 7) R (Or.inl ⟨rfl, rfl⟩) kf_X5_152 dX5_violated_7 rfl ?_
  clear R
  intro h R
  refine bs_aload_n (pc' := 11) dX5_violated_10 rfl rfl rfl ?_
  refine bs_iload_n (pc' := 12) dX5_violated_11 rfl rfl ?_
  refine rp_put (k := 13) (fi := 8) R (Or.inr (Or.inl ⟨rfl, rfl⟩)) kf_X5_39 dX5_violated_12 rfl ?_
  clear R
  intro h R
  refine bs_aload_n (pc' := 16) dX5_violated_15 rfl rfl rfl ?_
  refine bs_iload_n (pc' := 17) dX5_violated_16 rfl rfl ?_
  refine rp_put (k := 14) (fi := 9) R (Or.inr (Or.inr ⟨rfl, rfl⟩)) kf_X5_43 dX5_violated_17 rfl ?_
  clear R
  intro h R
  refine bs_bipush (v := (-5)) (pc' := 22) dX5_violated_20 (by decide) rfl ?_
  exact bs_iret dX5_violated_22 rfl ⟨rfl, R⟩
end RMain
