/-! performReborrow -/
def k_reb (σ : MS) (p kd fr ct pr : Int32) : Int32 × MS :=
  if isC σ p fr = true ∧ (0 ≤ kd ∧ kd ≤ 2) ∧ (0 ≤ pr ∧ pr ≤ 1) ∧ (1 ≤ ct ∧ ct ≤ σ 1 (zN (σ 9 (zN p))) - fr) then
    (if pr = 1 ∧ σ 11 0 = 0 then (-3, σ) else match fsV (rbK σ (zN p) kd) (zN ct) (zN fr) with
      | some i => (-5, vio σ (rbK σ (zN p) kd i) (nI i))
      | none => if σ 8 0 < 60 ∧ fit σ (zN p) kd (zN ct) (zN fr) = true then (σ 8 0, nwP (pts σ (zN p) kd (if pr = 1 then σ 11 0 else 0) (zN ct) (zN fr)) (σ 9 (zN p)) p) else (-4, σ))
  else (-2, σ)
section RReb2
variable {G : GG} {h0 h : Hp} {β : AB} {B : Nat} {σ κ τ : MS} {c : Nat}
theorem fin_reb {p kd fr ct pr : Int32} (P : PI B σ κ) : s_reb σ p kd fr ct pr = fin (k_reb σ p kd fr ct pr) := by
  unfold s_reb k_reb
  split
  · split
    · exact fin_3.symm
    · cases fsV (rbK σ (zN p) kd) (zN ct) (zN fr) with
      | some i => exact fin_5.symm
      | none =>
        show (if _ then _ else _) = fin (if _ then _ else _)
        split
        · exact (fin_n (nn_pos P.inv.nP (by decide))).symm
        · exact fin_4.symm
  · exact fin_2.symm
theorem fsV_all {K : Nat → Int32} : ∀ {f i : Nat}, (∀ j, i ≤ j → j < i + f → K j = 0) → fsV K f i = none
  | 0, _, _ => rfl
  | f + 1, i, q => by
    unfold fsV
    rw [if_pos (q i (Nat.le_refl _) (by omega))]
    exact fsV_all (fun j h1 h2 => q j (by omega) (by omega))
theorem fsV_at {K : Nat → Int32} {x : Nat} (hx : ¬ K x = 0) : ∀ {f i : Nat}, i ≤ x → x < i + f → (∀ j, i ≤ j → j < x → K j = 0) → fsV K f i = some x
  | 0, _, h1, h2, _ => absurd h2 (by omega)
  | f + 1, i, h1, h2, q => by
    unfold fsV
    by_cases e : i = x
    · subst e
      rw [if_neg hx]
    · rw [if_pos (q i (Nat.le_refl _) (by omega))]
      exact fsV_at hx (by omega) (by omega) (fun j h1 h2 => q j (by omega) h2)
theorem fit_of {p : Nat} {kd : Int32} : ∀ {f i : Nat}, (∀ j, i ≤ j → j < i + f → szB σ p kd j ≤ 12) → fit σ p kd f i = true
  | 0, _, _ => rfl
  | f + 1, i, q => by
    unfold fit
    rw [decide_eq_true (q i (Nat.le_refl _) (by omega)), Bool.true_and]
    exact fit_of (fun j h1 h2 => q j (by omega) (by omega))
/-- the loop that puts the items in -/
theorem r_rebPut {p a : Nat} {kd g pr : Int32} {pd : Int32} {u8 : Value} {lo n : Nat} {x8 : Int32} : ∀ (f i : Nat) (σ κ : MS) (h : Hp), Rep G h0 β (lk σ κ) h → PI B σ κ → a < zN (σ 0 0) → a = zN (σ 9 p) → p < zN (σ 8 0) → zN (σ 8 0) < 60 → lo ≤ i → i + f = lo + n → lo + n ≤ zN (σ 1 a) → (∀ i', i ≤ i' → i' < i + f → rbW σ (cO σ p i') kd (nI p) = 0 ∧ szB σ p kd i' ≤ 12) → gOK (κ 23) (zN (σ 11 0)) g pr → nn pr (zN (κ 16 0)) →
    bs_B G (fun _ => True) mX5_performReborrow 5 1 2 h 215 [(0, .ref (β 0 0 0)), (1, .int (nI p)), (2, .int kd), (3, .int (nI lo)), (4, .int (nI n)), (5, .int pd), (6, .ref (β 1 p 0)), (7, .ref (β 2 a 0)), (8, .int x8), (9, .int pr), (10, .int (nI i))] [] (fun v h' => v = some (.int (σ 8 0)) ∧ ∃ q κ', PI B (nwP (pts σ p kd g f i) (σ 9 p) (nI p)) κ' ∧ (∀ k, k ≠ 7 → κ' k = κ k) ∧ Rep G h0 (adB β (zN (σ 8 0)) q) (lk (nwP (pts σ p kd g f i) (σ 9 p) (nI p)) κ') h')
  | 0, i, σ, κ, h, R, P, ha, ea, hp, h60, hlo, hf, hn, hall, hg, hpr => by
    have h8 := (P.inv.cl ha).1.2
    have e9 : σ 9 p = nI a := by rw [ea]; exact P.inv.owe hp
    have P1 : PI B (nwP σ (nI a) (nI p)) κ := by
      have e : ∀ k, ¬ (k = 8 ∨ k = 9 ∨ k = 10) → nwP σ (nI a) (nI p) k = σ k := fun k hk => nwP_n hk
      refine ⟨mInv_nwP P.inv h60 ha, ?_, ?_, ?_, ?_, ?_, ?_, P.lat, ?_, P.pro, ?_⟩
      · rw [e 3 (by decide)]; exact P.val
      · rw [e 2 (by decide)]; exact P.frd
      · rw [e 6 (by decide)]; exact P.prm
      · rw [e 2 (by decide), e 0 (by decide)]; exact P.fr2
      · rw [e 3 (by decide), e 0 (by decide)]; exact P.fr3
      · rw [e 5 (by decide), e 6 (by decide), e 7 (by decide), e 0 (by decide)]; exact P.fr5
      · rw [e 11 (by decide)]; exact P.ser
      · rw [e 11 (by decide), e 7 (by decide)]; exact P.grd
    rw [e9]
    refine bs_iload (pc' := 217) dX5_performReborrow_215 rfl rfl ?_
    refine bs_iload_n (pc' := 218) dX5_performReborrow_217 rfl rfl ?_
    refine bs_iload (pc' := 220) dX5_performReborrow_218 rfl rfl ?_
    refine bs_iadd (pc' := 221) dX5_performReborrow_220 rfl ?_
    refine bs_icmp_ge (tgt := 249) (pc' := 224) dX5_performReborrow_221 rfl rfl (fun _ => ?_) (fun c221 => absurd (by rw [nI_add]; exact nI_le (by omega) (by omega)) c221)
    refine bs_aload_n (pc' := 250) dX5_performReborrow_249 rfl rfl rfl ?_
    refine bs_aload (pc' := 252) dX5_performReborrow_250 rfl rfl rfl ?_
    refine bs_iload_n (pc' := 253) dX5_performReborrow_252 rfl rfl ?_
    refine bs_callV (N := mX5_addPointer) (pc' := 256) dX5_performReborrow_253 km_X5_198 ko_X5_addPointer (r_addPointer R P h60 ha) R.M rfl rfl rfl (by omega) (Nat.le_refl _) (Nat.le_refl _) rfl ?_
    rintro _ h ⟨rfl, q, R⟩
    exact bs_iret dX5_performReborrow_256 rfl ⟨rfl, q, κ, P1, fun _ _ => rfl, R⟩
  | f + 1, i, σ, κ, h, R, P, ha, ea, hp, h60, hlo, hf, hn, hall, hg, hpr => by
    have h8 := (P.inv.cl ha).1.2
    have hi : isPc σ p i := ⟨hp, by rw [← ea]; omega⟩
    obtain ⟨r1, r2⟩ := hall i (Nat.le_refl _) (by omega)
    obtain ⟨P1, sp⟩ := rc_applyReborrow (g := g) R P hi r1 r2 hg hpr
    obtain ⟨o1, o2, o3⟩ := pt_ok (g := g) P.inv hi ((rbW_g r1).2) r2
    have e9 := o2 9 (by decide)
    have eC : β 4 (8 * a + i) 0 = β 4 (cO σ p i) 0 := by rw [ea]; rfl
    refine bs_iload (pc' := 217) dX5_performReborrow_215 rfl rfl ?_
    refine bs_iload_n (pc' := 218) dX5_performReborrow_217 rfl rfl ?_
    refine bs_iload (pc' := 220) dX5_performReborrow_218 rfl rfl ?_
    refine bs_iadd (pc' := 221) dX5_performReborrow_220 rfl ?_
    refine bs_icmp_ge (tgt := 249) (pc' := 224) dX5_performReborrow_221 rfl rfl (fun c221 => absurd c221 (by rw [nI_add]; exact nI_ge (by omega) (by omega))) (fun _ => ?_)
    refine bs_aload (pc' := 226) dX5_performReborrow_224 rfl rfl rfl ?_
    refine bs_getf (pc' := 229) kf_X5_219 dX5_performReborrow_226 (R.O ha) rfl rfl ?_
    refine bs_iload (pc' := 231) dX5_performReborrow_229 rfl rfl ?_
    refine bs_rld (pc' := 232) dX5_performReborrow_231 (R.aK ha) (by decide) i rfl ⟨by omega, by omega⟩ _ ((rfs_at (show i < zN (σ 1 a) by omega)).trans (congrArg some eC)) rfl ?_
    refine bs_iload_n (pc' := 233) dX5_performReborrow_232 rfl rfl ?_
    refine bs_iload_n (pc' := 234) dX5_performReborrow_233 rfl rfl ?_
    refine bs_aload_n (pc' := 235) dX5_performReborrow_234 rfl rfl rfl ?_
    refine bs_getf (pc' := 238) kf_X5_146 dX5_performReborrow_235 R.M rfl rfl ?_
    refine bs_iload (pc' := 240) dX5_performReborrow_238 rfl rfl ?_
    refine bs_callV (N := mX2_applyReborrow) (pc' := 243) dX5_performReborrow_240 km_X5_233 ko_X2_applyReborrow sp (R.E (P.isL hi)) rfl rfl rfl (by omega) (Nat.le_refl _) (Nat.le_refl _) rfl ?_
    rintro _ h ⟨rfl, R⟩
    refine bs_iinc (pc' := 246) (lv' := [(0, _), (1, _), (2, _), (3, _), (4, _), (5, _), (6, _), (7, _), (8, _), (9, _), (10, _)]) dX5_performReborrow_243 rfl (nI_i1 i) rfl rfl rfl ?_
    refine bs_goto (tgt := 215) dX5_performReborrow_246 rfl ?_
    have ih := r_rebPut (p := p) (a := a) (kd := kd) (g := g) (pr := pr) (pd := pd) (u8 := u8) (lo := lo) (n := n) (x8 := x8) f (i + 1) (pt σ p kd i g) (ptK σ κ p kd i pr) h R P1 (by rw [o2 0 (by decide)]; exact ha) (by rw [e9]; exact ea) (by rw [o2 8 (by decide)]; exact hp) (by rw [o2 8 (by decide)]; exact h60) (by omega) (by omega) (by rw [o2 1 (by decide)]; exact hn) (fun i' a1 a2 => by
      obtain ⟨g1, g2⟩ := hall i' (by omega) (by omega)
      have hi' : isPc σ p i' := ⟨hp, by rw [← ea]; omega⟩
      have hne : cO σ p i' ≠ cO σ p i := by unfold cO; omega
      have hq := o3 _ hne
      have hn12 : zN (σ 4 (cO σ p i')) ≤ 12 := (P.inv.sz (P.inv.cell hi').2).2
      rw [cO_of e9, rbW_cong hq hn12, szB_cong e9 hn12 hq]
      exact ⟨g1, g2⟩) (by rw [o2 11 (by decide)]; exact hg) hpr
    rw [o2 8 (by decide), e9] at ih
    exact ih.mono (fun v h' z => by
      obtain ⟨z1, q, κ', z2, z3, z4⟩ := z
      exact ⟨z1, q, κ', z2, fun k hk => (z3 k hk).trans (insK_n hk), z4⟩)
end RReb2
