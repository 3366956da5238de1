/-! the cells' methods, where the class holds its state -/
section RCell
variable {G : GG} {h0 h : Hp} {β : AB} {B : Nat} {σ κ : MS} {c : Nat}
theorem isL_lk (hc : isL σ c) : isL (lk σ κ) c := by
  unfold isL
  rw [lk_s (k := 0) (by decide), lk_s (k := 1) (by decide)]
  exact hc
theorem Rep.cHE (R : Rep G h0 β (lk σ κ) h) (P : PI B σ κ) (hc : isL σ c) : cH G h (β 4 c 0) (β 4 c 1) (β 4 c 2) (β 4 c 3) (slc (σ 5) c) (slc (σ 6) c) (slc (κ 7) c) (zN (σ 4 c)) (σ 3 c) = h := by
  have := R.ce (isL_lk hc)
  rw [lk_s (k := 5) (by decide), lk_s (k := 6) (by decide), lk_s (k := 4) (by decide), lk_s (k := 3) (by decide), lk_o (k := 7) (by decide)] at this
  show ce4 _ _ _ _ _ _ _ _ _ (nI (zN (σ 4 c))) _ = _
  rw [← (P.inv.sz (P.c96 hc).2.1).1]
  exact this
theorem Rep.kE (R : Rep G h0 β (lk σ κ) h) (P : PI B σ κ) : kAt G h (β 0 3 0) (β 0 4 0) (κ 23) (nI (zN (σ 11 0))) (κ 16 0) := by
  have := R.kA
  rw [lk_s (k := 11) (by decide), lk_o (k := 23) (by decide), lk_o (k := 16) (by decide)] at this
  rw [← P.inv.dp.1]
  exact this
theorem Rep.kC (R : Rep G h0 β (lk σ κ) h) (P : PI B σ κ) (hc : isL σ c) : kAt G (cH G h (β 4 c 0) (β 4 c 1) (β 4 c 2) (β 4 c 3) (slc (σ 5) c) (slc (σ 6) c) (slc (κ 7) c) (zN (σ 4 c)) (σ 3 c)) (β 0 3 0) (β 0 4 0) (κ 23) (nI (zN (σ 11 0))) (κ 16 0) := by
  rw [R.cHE P hc]
  exact R.kE P
variable {x : Int32}
theorem rc_readViolation (R : Rep G h0 β (lk σ κ) h) (P : PI B σ κ) (hc : isL σ c) : bs_Sp G mX2_readViolation 1 0 0 [.ref (β 4 c 0), .int x, .ref (β 0 3 0)] h (cQ h (rdW σ c x)) := by
  have h80 := (P.c96 hc).2.1
  have := sc_readViolation (x := x) (R.dc (isL_lk hc)) (P.inv.sz h80).2 (R.kC P hc) P.inv.dp.2
  rw [R.cHE P hc, P.rdE h80] at this
  exact this
theorem rc_writeViolation (R : Rep G h0 β (lk σ κ) h) (P : PI B σ κ) (hc : isL σ c) : bs_Sp G mX2_writeViolation 2 0 0 [.ref (β 4 c 0), .int x, .ref (β 0 3 0)] h (cQ h (wrW σ c x)) := by
  have h80 := (P.c96 hc).2.1
  have := sc_writeViolation (x := x) (R.dc (isL_lk hc)) (P.inv.sz h80).2 (P.pok h80 (P.inv.sz h80).2) (R.kC P hc) P.inv.dp.2
  rw [R.cHE P hc, P.wrE h80] at this
  exact this
theorem rc_freeViolation (R : Rep G h0 β (lk σ κ) h) (P : PI B σ κ) (hc : isL σ c) : bs_Sp G mX2_freeViolation 2 0 0 [.ref (β 4 c 0), .int x, .ref (β 0 3 0)] h (cQ h (frW σ c x)) := by
  have h80 := (P.c96 hc).2.1
  have := sc_freeViolation (x := x) (R.dc (isL_lk hc)) (P.inv.sz h80).2 (P.pok h80 (P.inv.sz h80).2) (R.kC P hc) P.inv.dp.2
  rw [R.cHE P hc, P.frE h80] at this
  exact this
theorem rc_reborrowViolation {kd : Int32} (R : Rep G h0 β (lk σ κ) h) (P : PI B σ κ) (hc : isL σ c) : bs_Sp G mX2_reborrowViolation 3 0 0 [.ref (β 4 c 0), .int kd, .int x, .ref (β 0 3 0)] h (cQ h (rbW σ c kd x)) := by
  have h80 := (P.c96 hc).2.1
  have := sc_reborrowViolation (kd := kd) (x := x) (R.dc (isL_lk hc)) (P.inv.sz h80).2 (P.pok h80 (P.inv.sz h80).2) (R.kC P hc) P.inv.dp.2
  rw [R.cHE P hc, P.rbE h80] at this
  exact this
theorem rc_hasRoom {kd : Int32} (R : Rep G h0 β (lk σ κ) h) (P : PI B σ κ) (hc : isL σ c) : bs_Sp G mX2_hasRoomToReborrow 2 0 0 [.ref (β 4 c 0), .int kd, .int x] h (cQ h (bI (decide ((if kd = 0 then kpW σ c x else zN (σ 4 c)) < 12)))) := by
  have h80 := (P.c96 hc).2.1
  have := sc_hasRoomToReborrow (G := G) (h := h) (pr := slc (κ 7) c) (v := σ 3 c) (kd := kd) (x := x) (R.dc (isL_lk hc)) (P.inv.sz h80).2 (P.pok h80 (P.inv.sz h80).2) (tg := slc (σ 5) c)
  rw [R.cHE P hc, P.kpE h80] at this
  exact this
theorem rc_keptByWrite (R : Rep G h0 β (lk σ κ) h) (P : PI B σ κ) (hc : isL σ c) : bs_Sp G mX2_keptByWrite 1 0 0 [.ref (β 4 c 0), .int x] h (cQ h (nI (kpW σ c x))) := by
  have h80 := (P.c96 hc).2.1
  have := sc_keptByWrite (G := G) (h := h) (pr := slc (κ 7) c) (v := σ 3 c) (x := x) (R.dc (isL_lk hc)) (P.inv.sz h80).2 (P.pok h80 (P.inv.sz h80).2) (tg := slc (σ 5) c)
  rw [show ce4 G h (β 4 c 0) (β 4 c 1) (β 4 c 2) (β 4 c 3) (slc (σ 5) c) (slc (σ 6) c) (slc (κ 7) c) (nI (zN (σ 4 c))) (σ 3 c) = h from R.cHE P hc, P.kpE h80] at this
  exact this
theorem rc_grantOfRead (R : Rep G h0 β (lk σ κ) h) (P : PI B σ κ) (hc : isL σ c) : bs_Sp G mX2_grantOfRead 0 0 0 [.ref (β 4 c 0), .int x] h (cQ h (oI (gr σ c x false))) := by
  have h80 := (P.c96 hc).2.1
  have := sc_grantOfRead (G := G) (h := h) (pr := slc (κ 7) c) (v := σ 3 c) (x := x) (R.dc (isL_lk hc)) (P.inv.sz h80).2 (pm := slc (σ 6) c) (tg := slc (σ 5) c)
  rw [show ce4 G h (β 4 c 0) (β 4 c 1) (β 4 c 2) (β 4 c 3) (slc (σ 5) c) (slc (σ 6) c) (slc (κ 7) c) (nI (zN (σ 4 c))) (σ 3 c) = h from R.cHE P hc, P.grE h80] at this
  exact this
theorem rc_hasItem (R : Rep G h0 β (lk σ κ) h) (P : PI B σ κ) (hc : isL σ c) : bs_Sp G mX2_hasItem 0 0 0 [.ref (β 4 c 0), .int x] h (cQ h (bI (inb x (zN (σ 4 c))))) := by
  have h80 := (P.c96 hc).2.1
  have := sc_hasItem (G := G) (h := h) (e := β 4 c 0) (t := β 4 c 1) (p := β 4 c 2) (q := β 4 c 3) (pr := slc (κ 7) c) (v := σ 3 c) (x := x) (P.inv.sz h80).2 (pm := slc (σ 6) c) (tg := slc (σ 5) c)
  rw [show ce4 G h (β 4 c 0) (β 4 c 1) (β 4 c 2) (β 4 c 3) (slc (σ 5) c) (slc (σ 6) c) (slc (κ 7) c) (nI (zN (σ 4 c))) (σ 3 c) = h from R.cHE P hc] at this
  exact this
theorem itm_cong {tg tg' pm pm' : Nat → Int32} {ac ac' : Nat → Bool} : ∀ {f j : Nat} {a : Int64}, (∀ k, j ≤ k → k < j + f → tg' k = tg k ∧ pm' k = pm k ∧ ac' k = ac k) → d_itm tg' pm' ac' f j a = d_itm tg pm ac f j a
  | 0, _, _, _ => rfl
  | f + 1, j, a, q => by
    obtain ⟨q1, q2, q3⟩ := q j (by omega) (by omega)
    unfold d_itm
    rw [q1, q2, q3]
    exact itm_cong (fun k h1 h2 => q k (by omega) (by omega))
theorem rc_mixedInto {a : Int64} (R : Rep G h0 β (lk σ κ) h) (P : PI B σ κ) (hc : isL σ c) : bs_Sp G mX2_mixedInto 1 0 0 [.ref (β 4 c 0), .long a, .ref (β 0 3 0)] h (fun r h' => r = some (.long (d_cel σ c a)) ∧ h' = h) := by
  have h80 := (P.c96 hc).2.1
  have h12 := (P.inv.sz h80).2
  have h5 := P.inv.dp.2
  have := sc_mixCell (a := a) (R.dc (isL_lk hc)) (P.inv.sz h80).2 (R.kC P hc) P.inv.dp.2
  rw [R.cHE P hc, ← (P.inv.sz h80).1, itm_cong (tg := fun k => σ 5 (12 * c + k)) (pm := fun k => σ 6 (12 * c + k)) (ac := fun k => decide (0 < σ 7 (12 * c + k))) (fun k h1 h2 => ⟨slc_at (by omega), slc_at (by omega), by
    show acf (κ 23) (slc (κ 7) c k) (zN (σ 11 0)) 0 = _
    rw [slc_at (by omega)]
    exact gOK_ac h5 (P.grd _ (by omega))⟩)] at this
  exact this
/-- a cell changed -/
theorem Rep.ch {σ' κ' : MS} {tg pm pr : Nat → Int32} {n v : Int32} (R : Rep G h0 β (lk σ κ) h) (hc : isL σ c) (e : ∀ k, ¬ (k = 3 ∨ k = 4 ∨ k = 5 ∨ k = 6 ∨ k = 7) → σ' k = σ k) (e' : ∀ k, k ≠ 7 → κ' k = κ k) (ec : ∀ c', c' ≠ c → σ' 3 c' = σ 3 c' ∧ σ' 4 c' = σ 4 c' ∧ ∀ k, k < 12 → σ' 5 (12 * c' + k) = σ 5 (12 * c' + k) ∧ σ' 6 (12 * c' + k) = σ 6 (12 * c' + k) ∧ κ' 7 (12 * c' + k) = κ 7 (12 * c' + k)) (h5 : slc (σ' 5) c = tg) (h6 : slc (σ' 6) c = pm) (h7 : slc (κ' 7) c = pr) (h4 : σ' 4 c = n) (h3 : σ' 3 c = v) : Rep G h0 β (lk σ' κ') (ce4 G h (β 4 c 0) (β 4 c 1) (β 4 c 2) (β 4 c 3) tg pm pr n v) := by
  have := R.cel (υ' := lk σ' κ') (isL_lk hc) (fun k hk => by
    by_cases q : k = 7 ∨ k = 16 ∨ 19 ≤ k
    · rw [lk_o q, lk_o q, e' k (by omega)]
    · rw [lk_s q, lk_s q, e k hk]) (fun c' hc' => by
    obtain ⟨a1, a2, a3⟩ := ec c' hc'
    rw [lk_s (k := 3) (by decide), lk_s (k := 3) (by decide), lk_s (k := 4) (by decide), lk_s (k := 4) (by decide), lk_s (k := 5) (by decide), lk_s (k := 5) (by decide), lk_s (k := 6) (by decide), lk_s (k := 6) (by decide), lk_o (k := 7) (by decide), lk_o (k := 7) (by decide)]
    exact ⟨a1, a2, slc_eq (fun k hk => (a3 k hk).1), slc_eq (fun k hk => (a3 k hk).2.1), slc_eq (fun k hk => (a3 k hk).2.2)⟩)
  rw [lk_s (k := 3) (by decide), lk_s (k := 4) (by decide), lk_s (k := 5) (by decide), lk_s (k := 6) (by decide), lk_o (k := 7) (by decide), h5, h6, h7, h4, h3] at this
  exact this
theorem rc_applyRead {g : Nat} (R : Rep G h0 β (lk σ κ) h) (P : PI B σ κ) (hc : isL σ c) (hg : gr σ c x false = some g) : bs_Sp G mX2_applyRead 1 0 0 [.ref (β 4 c 0), .int x] h (fun r h' => r = none ∧ Rep G h0 β (lk (dis σ (12 * c + (g + 1)) (12 * c + zN (σ 4 c))) κ) h') := by
  have h80 := (P.c96 hc).2.1
  have h12 := (P.inv.sz h80).2
  have := sc_applyRead (G := G) (h := h) (pr := slc (κ 7) c) (v := σ 3 c) (x := x) (R.dc (isL_lk hc)) h12 (pm := slc (σ 6) c) (tg := slc (σ 5) c)
  rw [R.cHE P hc] at this
  refine this.mono ?_
  rintro r h' ⟨rfl, rfl⟩
  refine ⟨rfl, R.ch hc (fun k hk => dis_n (by omega)) (fun _ _ => rfl) (fun c' hc' => ⟨by rw [dis_n (by decide)], by rw [dis_n (by decide)], fun k hk => ⟨by rw [dis_n (by decide)], ?_, rfl⟩⟩) (by rw [dis_n (by decide)]) ?_ rfl (by rw [dis_n (by decide)]; exact (P.inv.sz h80).1) (by rw [dis_n (by decide)])⟩
  · unfold dis
    rw [if_neg (by omega)]
  · rw [slc_dis h12]
    unfold rdP
    rw [P.grE h80, hg]
theorem rc_applyWrite (R : Rep G h0 β (lk σ κ) h) (P : PI B σ κ) (hc : isL σ c) : bs_Sp G mX2_applyWrite 2 0 0 [.ref (β 4 c 0), .int x] h (fun r h' => r = none ∧ Rep G h0 β (lk (ms_u σ 4 c (nI (kpW σ c x))) κ) h') := by
  have h80 := (P.c96 hc).2.1
  have h12 := (P.inv.sz h80).2
  have := sc_applyWrite (G := G) (h := h) (pr := slc (κ 7) c) (v := σ 3 c) (x := x) (R.dc (isL_lk hc)) h12 (P.pok h80 h12) (tg := slc (σ 5) c)
  rw [R.cHE P hc, P.kpE h80] at this
  refine this.mono ?_
  rintro r h' ⟨rfl, rfl⟩
  refine ⟨rfl, R.ch hc (fun k hk => ms_u_n (by omega)) (fun _ _ => rfl) (fun c' hc' => ⟨by rw [ms_u_n (by decide)], by rw [ms_u_k]; exact if_neg hc', fun k hk => ⟨by rw [ms_u_n (by decide)], by rw [ms_u_n (by decide)], rfl⟩⟩) (by rw [ms_u_n (by decide)]) (by rw [ms_u_n (by decide)]) rfl (by rw [ms_u_k]; exact if_pos rfl) (by rw [ms_u_n (by decide)])⟩
/-- a value set -/
theorem Rep.v (R : Rep G h0 β (lk σ κ) h) (P : PI B σ κ) (hc : isL σ c) : Rep G h0 β (lk (ms_u σ 3 c x) κ) (cH G h (β 4 c 0) (β 4 c 1) (β 4 c 2) (β 4 c 3) (slc (σ 5) c) (slc (σ 6) c) (slc (κ 7) c) (zN (σ 4 c)) x) := by
  have h80 := (P.c96 hc).2.1
  exact R.ch hc (fun k hk => ms_u_n (by omega)) (fun _ _ => rfl) (fun c' hc' => ⟨by rw [ms_u_k]; exact if_neg hc', by rw [ms_u_n (by decide)], fun k hk => ⟨by rw [ms_u_n (by decide)], by rw [ms_u_n (by decide)], rfl⟩⟩) (by rw [ms_u_n (by decide)]) (by rw [ms_u_n (by decide)]) rfl (by rw [ms_u_n (by decide)]; exact (P.inv.sz h80).1) (by rw [ms_u_k]; exact if_pos rfl)
end RCell
