/-! reborrow -/
section RReb
variable {G : GG} {h0 h : Hp} {β : AB} {B : Nat} {σ κ τ : MS} {c : Nat}
theorem gd_cong {j : Nat} {all : Bool} (h : eqC σ τ c) (hn : zN (σ 4 c) ≤ 12) : gd τ c j all = gd σ c j all := by
  unfold gd
  rw [h.1]
  exact gdf_cong (fun k h1 h2 => ⟨(h.2 k (by omega)).2.1, (h.2 k (by omega)).2.2⟩)
theorem rbW_cong {kd t : Int32} (h : eqC σ τ c) (hn : zN (σ 4 c) ≤ 12) : rbW τ c kd t = rbW σ c kd t := by
  unfold rbW wrW rdW raW
  rw [gr_cong h hn, gr_cong h hn]
  cases hg : gr σ c t true with
  | none =>
    cases hg2 : gr σ c t false with
    | none => rfl
    | some k2 =>
      show (if kd = 0 then (1 : Int32) else if kd = 1 then (if gd τ c (k2 + 1) false = true then 2 else 0) else 1) = (if kd = 0 then (1 : Int32) else if kd = 1 then (if gd σ c (k2 + 1) false = true then 2 else 0) else 1)
      rw [gd_cong h hn]
  | some k =>
    cases hg2 : gr σ c t false with
    | none =>
      show (if kd = 0 then (if gd τ c (ab τ c k) true = true then (2 : Int32) else 0) else if kd = 1 then 1 else 0) = (if kd = 0 then (if gd σ c (ab σ c k) true = true then (2 : Int32) else 0) else if kd = 1 then 1 else 0)
      rw [gd_cong h hn, ab_cong h hn (grf_lt hg)]
    | some k2 =>
      show (if kd = 0 then (if gd τ c (ab τ c k) true = true then (2 : Int32) else 0) else if kd = 1 then (if gd τ c (k2 + 1) false = true then 2 else 0) else 0) = (if kd = 0 then (if gd σ c (ab σ c k) true = true then (2 : Int32) else 0) else if kd = 1 then (if gd σ c (k2 + 1) false = true then 2 else 0) else 0)
      rw [gd_cong h hn, gd_cong h hn, ab_cong h hn (grf_lt hg)]
/-- a stack after an item came in: τ is σ with the cell cut to n items, some of them disabled -/
theorem Rep.inw {p n : Nat} {t q g pr : Int32} {pm : Nat → Int32} (R : Rep G h0 β (lk σ κ) h) (hc : isL σ c) (e : ∀ k, k ≠ 4 → k ≠ 6 → τ k = σ k) (e4 : τ 4 c = nI n) (e4' : ∀ c', c' ≠ c → τ 4 c' = σ 4 c') (e6 : slc (τ 6) c = pm) (e6' : ∀ c', c' ≠ c → ∀ k, k < 12 → τ 6 (12 * c' + k) = σ 6 (12 * c' + k)) (hn : n < 12) (hp : p ≤ n) : Rep G h0 β (lk (ins τ c p t q g) (insK κ c p n pr)) (cH G h (β 4 c 0) (β 4 c 1) (β 4 c 2) (β 4 c 3) (isf (slc (σ 5) c) p n t) (isf pm p n q) (isf (slc (κ 7) c) p n pr) (n + 1) (σ 3 c)) := by
  have z4 : zN (τ 4 c) = n := by rw [e4]; exact zN_nI (by omega)
  refine R.ch hc (fun k hk => ?_) (fun k hk => insK_n hk) (fun c' hc' => ⟨?_, ?_, fun k hk => ⟨?_, ?_, ?_⟩⟩) ?_ ?_ ?_ ?_ ?_
  · rw [ins_n (by omega), e k (by omega) (by omega)]
  · rw [ins_n (by decide), e 3 (by decide) (by decide)]
  · rw [ins_4]
    unfold upd
    rw [if_neg hc', e4' c' hc']
  · rw [ins_far (by decide) (by omega) (by omega) hc' hk, e 5 (by decide) (by decide)]
  · rw [ins_far (by decide) (by omega) (by omega) hc' hk, e6' c' hc' k hk]
  · rw [insK_7]
    unfold upd shf
    rw [if_neg (by omega), if_neg (by omega)]
  · rw [ins_5, z4, slc_ins hn hp, e 5 (by decide) (by decide)]
  · rw [ins_6, z4, slc_ins hn hp, e6]
  · rw [insK_7, slc_ins hn hp]
  · rw [ins_4, e4, nI_1]
    exact if_pos rfl
  · rw [ins_n (by decide), e 3 (by decide) (by decide)]
def ptK (σ κ : MS) (p : Nat) (kd : Int32) (i : Nat) (pr : Int32) : MS := insK κ (cO σ p i) (if kd = 1 then zN (σ 4 (cO σ p i)) else kpW σ (cO σ p i) (nI p)) (if kd = 0 then kpW σ (cO σ p i) (nI p) else zN (σ 4 (cO σ p i))) pr
theorem rbW_g {kd t : Int32} (h : rbW σ c kd t = 0) : (kd = 1 → ∃ g, gr σ c t false = some g) ∧ (¬ kd = 1 → ∃ g, gr σ c t true = some g) := by
  unfold rbW at h
  refine ⟨fun k => ?_, fun k => ?_⟩
  · rw [if_neg (by rw [k]; decide), if_pos k] at h
    exact rdW_0 h
  · by_cases k0 : kd = 0
    · rw [if_pos k0] at h
      exact wrW_0 h
    · rw [if_neg k0, if_neg k] at h
      unfold raW at h
      cases hg : gr σ c t true with
      | none => rw [hg] at h; exact absurd (show (1 : Int32) = 0 from h) (by decide)
      | some g => exact ⟨g, rfl⟩
theorem szB_12 {p i : Nat} {kd : Int32} (hr : rbW σ (cO σ p i) kd (nI p) = 0) : szB σ p kd i = 1 + (if kd = 0 then kpW σ (cO σ p i) (nI p) else zN (σ 4 (cO σ p i))) := by
  unfold szB
  by_cases k0 : kd = 0
  · obtain ⟨g, hg⟩ := (rbW_g hr).2 (by rw [k0]; decide)
    rw [if_pos k0, if_pos k0, hg]
    unfold kpW
    rw [hg]
  · rw [if_neg k0, if_neg k0]
theorem rc_applyReborrow {p i : Nat} {kd g pr : Int32} (R : Rep G h0 β (lk σ κ) h) (P : PI B σ κ) (hi : isPc σ p i) (hr : rbW σ (cO σ p i) kd (nI p) = 0) (hs : szB σ p kd i ≤ 12) (hg : gOK (κ 23) (zN (σ 11 0)) g pr) (hpr : nn pr (zN (κ 16 0))) : PI B (pt σ p kd i g) (ptK σ κ p kd i pr) ∧ bs_Sp G mX2_applyReborrow 3 0 0 [.ref (β 4 (cO σ p i) 0), .int kd, .int (nI p), .int (σ 8 0), .int pr] h (fun r h' => r = none ∧ Rep G h0 β (lk (pt σ p kd i g) (ptK σ κ p kd i pr)) h') := by
  have hc := P.isL hi
  have h80 := (P.c96 hc).2.1
  have h8 := (P.c96 hc).1
  have h12 := (P.inv.sz h80).2
  rw [szB_12 hr] at hs
  have hN : rbN (slc (σ 5) (cO σ p i)) (slc (σ 6) (cO σ p i)) kd (nI p) (zN (σ 4 (cO σ p i))) < 12 := by
    unfold rbN
    rw [P.kpE h80]
    omega
  have sp := sc_applyReborrow (G := G) (h := h) (pr := slc (κ 7) (cO σ p i)) (v := σ 3 (cO σ p i)) (nt := σ 8 0) (pt := pr) (R.dc (isL_lk hc)) h12 (P.pok h80 h12) hN
  rw [R.cHE P hc] at sp
  unfold rbN rbI rbP rbQ at sp
  rw [P.kpE h80] at sp
  unfold pt ptK
  by_cases k0 : kd = 0
  · obtain ⟨k, hk⟩ := (rbW_g hr).2 (by rw [k0]; decide)
    have k1 : ¬ kd = 1 := by rw [k0]; decide
    rw [if_pos k0] at hs
    rw [if_pos k0, if_neg k1, if_neg k1, if_pos k0] at sp
    rw [if_pos k0, if_neg k1, if_pos k0]
    have ek : kpW σ (cO σ p i) (nI p) = ab σ (cO σ p i) k := by unfold kpW; rw [hk]
    have hd : dWr σ p i = ms_u σ 4 (cO σ p i) (nI (kpW σ (cO σ p i) (nI p))) := by unfold dWr; rw [hk, ek]
    have hab : ab σ (cO σ p i) k ≤ _ := (abf_le (pm := fun k => σ 6 (12 * cO σ p i + k)) (grf_lt hk)).2
    have d4 : dWr σ p i 4 (cO σ p i) = nI (kpW σ (cO σ p i) (nI p)) := by rw [hd, ms_u_k]; exact if_pos rfl
    have z4 : zN (dWr σ p i 4 (cO σ p i)) = kpW σ (cO σ p i) (nI p) := by rw [d4]; exact zN_nI (by omega)
    have P1 : PI B (dWr σ p i) κ := by
      rw [hd]
      exact PI_4 P (nn_nI (by omega) (by decide)) h8
    have P2 := PI_ins (t := σ 8 0) (q := 0) (g := g) (pr := pr) (p := zN (dWr σ p i 4 (cO σ p i))) (c := cO σ p i) P1 (by rw [dWr_n (by decide)]; exact h8) (by omega) (Nat.le_refl _) (Or.inl rfl) (by rw [dWr_n (by decide)]; exact hg) hpr
    rw [z4] at P2 ⊢
    refine ⟨P2, sp.mono ?_⟩
    rintro r h' ⟨rfl, rfl⟩
    exact ⟨rfl, R.inw hc (fun k h4 h6 => dWr_n h4) d4 (fun c' hc' => by rw [hd, ms_u_k]; exact if_neg hc') (by rw [dWr_n (by decide)]) (fun c' hc' k hk => by rw [dWr_n (by decide)]) (by omega) (Nat.le_refl _)⟩
  · rw [if_neg k0] at hs
    by_cases k1 : kd = 1
    · obtain ⟨k, hk⟩ := (rbW_g hr).1 k1
      rw [if_neg k0, if_pos k1, if_pos k1, if_neg k0, if_pos k1] at sp
      rw [if_neg k0, if_pos k1, if_pos k1, if_neg k0]
      have hd : dRd σ p i = dis σ (12 * cO σ p i + (k + 1)) (12 * cO σ p i + zN (σ 4 (cO σ p i))) := by unfold dRd; rw [hk]; rfl
      have P1 : PI B (dRd σ p i) κ := by
        rw [hd]
        exact PI_dis P (by omega)
      have P2 := PI_ins (t := σ 8 0) (q := 2) (g := g) (pr := pr) (p := zN (σ 4 (cO σ p i))) (c := cO σ p i) P1 (by rw [dRd_n (by decide)]; exact h8) (by rw [dRd_n (by decide)]; omega) (by rw [dRd_n (by decide)]; exact Nat.le_refl _) (Or.inr (Or.inr (Or.inl rfl))) (by rw [dRd_n (by decide)]; exact hg) hpr
      rw [dRd_n (k := 4) (by decide)] at P2
      refine ⟨P2, sp.mono ?_⟩
      rintro r h' ⟨rfl, rfl⟩
      refine ⟨rfl, R.inw hc (fun k h4 h6 => dRd_n h6) (by rw [dRd_n (by decide)]; exact (P.inv.sz h80).1) (fun c' hc' => by rw [dRd_n (by decide)]) ?_ (fun c' hc' k hk => ?_) (by omega) (Nat.le_refl _)⟩
      · rw [hd, slc_dis h12]
        unfold rdP
        rw [P.grE h80, hk]
      · rw [hd]
        unfold dis
        rw [if_neg (by omega)]
    · obtain ⟨k, hk⟩ := (rbW_g hr).2 k1
      rw [if_neg k0, if_neg k1, if_neg k1, if_neg k0, if_neg k1] at sp
      rw [if_neg k0, if_neg k1, if_neg k1, if_neg k0, hk]
      have ek : kpW σ (cO σ p i) (nI p) = ab σ (cO σ p i) k := by unfold kpW; rw [hk]
      have hab : ab σ (cO σ p i) k ≤ _ := (abf_le (pm := fun k => σ 6 (12 * cO σ p i + k)) (grf_lt hk)).2
      rw [ek] at sp ⊢
      have P2 := PI_ins (t := σ 8 0) (q := 1) (g := g) (pr := pr) (p := ab σ (cO σ p i) k) (c := cO σ p i) P h8 (by omega) hab (Or.inr (Or.inl rfl)) hg hpr
      refine ⟨P2, sp.mono ?_⟩
      rintro r h' ⟨rfl, rfl⟩
      exact ⟨rfl, R.inw hc (fun k h4 h6 => rfl) (P.inv.sz h80).1 (fun c' hc' => rfl) rfl (fun c' hc' k hk => rfl) (by omega) hab⟩
end RReb
