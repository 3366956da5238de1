/-! runScript -/
section Run
variable {G : GG} {h0 h : Hp} {B m : Nat} {σ κ ψ : MS} {p x y z c : Int32}
def okA (x : Int32) : Prop := 0 ≤ x ∨ x = -2 ∨ x = -3 ∨ x = -4 ∨ x = -5
theorem okA_F (h : okA x) : isF x = decide (x ≤ -2) := by
  rcases h with h | rfl | rfl | rfl | rfl
  · have h1 : ¬ x ≤ -2 := fun z => absurd (Int32.le_trans h z) (by decide)
    rw [decide_eq_false h1, isF, decide_eq_false_iff_not]
    rintro (e | e | e | e) <;> exact absurd h (by rw [e]; decide)
  all_goals decide
theorem ans_of {r : Int32 × MS} (h : okA r.1) : okA r.1 := h
theorem ans_cmd (P : PI B σ κ) : okA (k_cmd σ c x y z).1 := by
  have a2 : okA (-2) := Or.inr (Or.inl rfl)
  have a3 : okA (-3) := Or.inr (Or.inr (Or.inl rfl))
  have a4 : okA (-4) := Or.inr (Or.inr (Or.inr (Or.inl rfl)))
  have a5 : okA (-5) := Or.inr (Or.inr (Or.inr (Or.inr rfl)))
  have hreb : ∀ p kd fr ct pr, okA (k_reb σ p kd fr ct pr).1 := by
    intro p kd fr ct pr
    unfold k_reb
    split
    · split
      · exact a3
      · cases fsV (rbK σ (zN p) kd) (zN ct) (zN fr) with
        | some i => exact a5
        | none =>
          show okA (if _ then _ else _ : Int32 × MS).1
          split
          · exact Or.inl (nn_pos P.inv.nP (by decide))
          · exact a4
    · exact a2
  unfold k_cmd
  split
  · unfold k_alloc
    split
    · split
      · exact a4
      · exact Or.inl (nn_pos P.inv.nP (by decide))
    · exact a2
  · split
    · unfold k_read
      split
      · next h =>
        obtain ⟨j, i, rfl, rfl, hj⟩ := isC_t P.inv h
        have hp := (P.inv.p60 hj.1)
        have hi := P.inv.cell hj
        split
        · refine Or.inl (P.val _ ?_)
          rw [zN_nI (by omega), zN_nI (by omega)]
          exact hi.2
        · exact a5
      · exact a2
    · split
      · unfold k_write
        split
        · next h =>
          obtain ⟨j, i, rfl, rfl, hj⟩ := isC_t P.inv h.1
          have hp := (P.inv.p60 hj.1)
          have hi := P.inv.cell hj
          split
          · refine Or.inl (P.val _ ?_)
            rw [zN_nI (by omega), zN_nI (by omega)]
            exact hi.2
          · exact a5
        · exact a2
      · split
        · exact hreb _ _ _ _ _
        · split
          · exact hreb _ _ _ _ _
          · split
            · exact hreb _ _ _ _ _
            · split
              · unfold k_free
                split
                · next h =>
                  have h2 := P.inv.nP.2
                  obtain ⟨j, hj, rfl⟩ := inb_t (by omega) h
                  rw [zN_nI (by omega)]
                  cases fsV (frK σ j) (zN (σ 1 (zN (σ 9 j)))) 0 with
                  | some i => exact a5
                  | none => exact Or.inl (nn_pos (P.inv.cl (P.inv.ow hj).2).1 (by decide))
                · exact a2
              · split
                · unfold k_enter
                  split
                  · exact a4
                  · refine Or.inl ?_
                    have h := P.inv.dp
                    show 0 ≤ σ 11 0 + 1
                    rw [(zN_s h (by decide)).1]
                    exact nI_pos' (by have := h.2; omega)
                · unfold k_leave
                  split
                  · exact a3
                  · next h =>
                    refine Or.inl ?_
                    have hd := P.inv.dp
                    obtain ⟨m, hm⟩ : ∃ m, zN (σ 11 0) = m + 1 := ⟨zN (σ 11 0) - 1, by
                      have : zN (σ 11 0) ≠ 0 := fun e => h (by rw [hd.1, e]; rfl)
                      omega⟩
                    show 0 ≤ σ 11 0 - 1
                    rw [hd.1, hm, nI_pred]
                    exact nI_pos' (by have := hd.2; omega)
/-! how many allocations -/
theorem pt_n {p i k : Nat} {kd g : Int32} (h : ¬ (k = 4 ∨ k = 5 ∨ k = 6 ∨ k = 7)) : pt σ p kd i g k = σ k := by
  unfold pt
  split
  · rw [ins_n h, dWr_n (by omega)]
  · split
    · rw [ins_n h, dRd_n (by omega)]
    · rw [ins_n h]
theorem pts_n {p k : Nat} {kd g : Int32} (h : ¬ (k = 4 ∨ k = 5 ∨ k = 6 ∨ k = 7)) : ∀ (f i : Nat) (σ : MS), pts σ p kd g f i k = σ k
  | 0, _, _ => rfl
  | f + 1, i, σ => by
    unfold pts
    rw [pts_n h f (i + 1), pt_n h]
theorem inl_n {a k : Nat} (h : ¬ (k = 4 ∨ k = 5 ∨ k = 6 ∨ k = 7)) : ∀ i, inl σ a p i k = σ k
  | 0 => rfl
  | i + 1 => by
    unfold inl
    rw [ins_n h, inl_n h i]
theorem mono_s (hI : mInv σ) : zN (σ 0 0) ≤ zN ((s_cmd σ c x y z).2 0 0) := by
  have hreb : ∀ p kd fr ct pr, (s_reb σ p kd fr ct pr).2 0 = σ 0 := by
    intro p kd fr ct pr
    unfold s_reb
    split
    · split
      · rfl
      · cases fsV (rbK σ (zN p) kd) (zN ct) (zN fr) with
        | some i => exact vio_k (σ := σ) (a := rbK σ (zN p) kd i) (b := nI i) (k := 0) (by decide)
        | none =>
          show (if _ then _ else _ : Int32 × MS).2 0 = _
          split
          · show nwP (pts σ (zN p) kd (if pr = 1 then σ 11 0 else 0) (zN ct) (zN fr)) (σ 9 (zN p)) p 0 = _
            rw [nwP_n (by decide), pts_n (by decide)]
          · rfl
    · rfl
  unfold s_cmd
  split
  · unfold s_alloc
    split
    · split
      · exact Nat.le_refl _
      · show _ ≤ zN (alc σ x 0 0)
        unfold alc
        rw [inl_n (by decide), nwP_n (by decide), ms_u_n (by decide), ms_u_k]
        show _ ≤ zN (σ 0 0 + 1)
        rw [(zN_s hI.nA (by decide)).2]
        omega
    · exact Nat.le_refl _
  · split
    · refine Nat.le_of_eq (congrArg zN (congrFun (?_ : _ = _) 0).symm)
      unfold s_read
      split
      · split
        · exact dRd_n (σ := σ) (p := zN x) (i := zN y) (k := 0) (by decide)
        · exact vio_k (σ := σ) (a := rdK σ (zN x) (zN y)) (b := y) (k := 0) (by decide)
      · rfl
    · split
      · refine Nat.le_of_eq (congrArg zN (congrFun (?_ : _ = _) 0).symm)
        unfold s_write
        split
        · split
          · show ms_u (dWr σ (zN x) (zN y)) 3 (cO σ (zN x) (zN y)) z 0 = _
            rw [ms_u_n (by decide), dWr_n (by decide)]
          · exact vio_k (σ := σ) (a := wrK σ (zN x) (zN y)) (b := y) (k := 0) (by decide)
        · rfl
      · split
        · rw [hreb]; exact Nat.le_refl _
        · split
          · rw [hreb]; exact Nat.le_refl _
          · split
            · rw [hreb]; exact Nat.le_refl _
            · split
              · refine Nat.le_of_eq (congrArg zN (congrFun (?_ : _ = _) 0).symm)
                unfold s_free
                split
                · cases fsV (frK σ (zN x)) (zN (σ 1 (zN (σ 9 (zN x))))) 0 with
                  | some i => exact vio_k (σ := σ) (a := frK σ (zN x) i) (b := nI i) (k := 0) (by decide)
                  | none => exact ms_u_n (σ := σ) (k := 2) (i := zN (σ 9 (zN x))) (x := 1) (k' := 0) (by decide)
                · rfl
              · split
                · refine Nat.le_of_eq (congrArg zN (congrFun (?_ : _ = _) 0).symm)
                  unfold s_enter
                  split
                  · rfl
                  · exact ms_u_n (σ := σ) (k := 11) (i := 0) (x := σ 11 0 + 1) (k' := 0) (by decide)
                · refine Nat.le_of_eq (congrArg zN (congrFun (?_ : _ = _) 0).symm)
                  unfold s_leave
                  split
                  · rfl
                  · show ms_u (clr σ 960) 11 0 (σ 11 0 - 1) 0 = _
                    rw [ms_u_n (by decide), clr_n (by decide)]
theorem exa_mono : ∀ (f k : Nat) (σ : MS), mInv σ → zN (σ 0 0) ≤ zN ((s_exa f k σ).2 0 0)
  | 0, _, _, _ => Nat.le_refl _
  | f + 1, k, σ, hI => by
    have mo : zN (σ 0 0) ≤ zN ((s_exe σ k).2 0 0) := mono_s hI
    have ok : mInv (s_exe σ k).2 := (ok_cmd hI).1
    unfold s_exa
    split
    · exact mo
    · exact Nat.le_trans mo (exa_mono f (k + 1) _ ok)
/-! in a script no error is counted -/
theorem fin_1 {r : Int32 × MS} (h : ¬ r.2 16 0 = 0) : fin r = r := by
  have e : ∀ j, err r.2 j = r.2 := fun j => by
    unfold err
    rw [if_neg h, Int32.add_zero]
    exact ms_u_e _ _ _
  unfold fin
  rw [e, e, e]
  show (r.1, if _ then _ else if _ then _ else if _ then _ else _) = _
  rw [ite_self, ite_self, ite_self]
theorem cmd_1 (P : PI B σ κ) (h1 : σ 16 0 = 1) : s_cmd σ c x y z = k_cmd σ c x y z ∧ (k_cmd σ c x y z).2 16 0 = 1 := by
  have e := fin_cmd (c := c) (x := x) (y := y) (z := z) P
  have k16 : (k_cmd σ c x y z).2 16 0 = 1 := by
    have := (ok_cmd (c := c) (x := x) (y := y) (z := z) P.inv).2 16 (Or.inl rfl)
    rw [e, fin_k (by decide)] at this
    rw [this]
    exact h1
  refine ⟨?_, k16⟩
  rw [e]
  exact fin_1 (by rw [k16]; decide)
/-- numbers that a command does not take do not matter -/
theorem cmd_arg {x' y' z' : Int32} (h : ∀ k, mny c = some k → (0 < k → x' = x) ∧ (1 < k → y' = y) ∧ (2 < k → z' = z)) : s_cmd σ c x' y' z' = s_cmd σ c x y z := by
  unfold s_cmd
  by_cases c1 : c = 97
  · have := h 1 (by rw [c1]; rfl)
    rw [if_pos c1, if_pos c1, this.1 (by decide)]
  · rw [if_neg c1, if_neg c1]
    by_cases c2 : c = 114
    · have := h 2 (by rw [c2]; rfl)
      rw [if_pos c2, if_pos c2, this.1 (by decide), this.2.1 (by decide)]
    · rw [if_neg c2, if_neg c2]
      by_cases c3 : c = 119
      · have := h 3 (by rw [c3]; rfl)
        rw [if_pos c3, if_pos c3, this.1 (by decide), this.2.1 (by decide), this.2.2 (by decide)]
      · rw [if_neg c3, if_neg c3]
        by_cases c4 : c = 109
        · have := h 3 (by rw [c4]; rfl)
          rw [if_pos c4, if_pos c4, this.1 (by decide), this.2.1 (by decide), this.2.2 (by decide)]
        · rw [if_neg c4, if_neg c4]
          by_cases c5 : c = 115
          · have := h 3 (by rw [c5]; rfl)
            rw [if_pos c5, if_pos c5, this.1 (by decide), this.2.1 (by decide), this.2.2 (by decide)]
          · rw [if_neg c5, if_neg c5]
            by_cases c6 : c = 112
            · have := h 3 (by rw [c6]; rfl)
              rw [if_pos c6, if_pos c6, this.1 (by decide), this.2.1 (by decide), this.2.2 (by decide)]
            · rw [if_neg c6, if_neg c6]
              by_cases c7 : c = 102
              · have := h 1 (by rw [c7]; rfl)
                rw [if_pos c7, if_pos c7, this.1 (by decide)]
              · rw [if_neg c7, if_neg c7]
/-- the class's command does what the reference's does -/
theorem exe_1 {k : Nat} {τ : MS} (P : PI B σ κ) (h1 : σ 16 0 = 1) (e19 : σ 19 = τ 19) (e20 : σ 20 = τ 20) (hag : agr τ ψ) (hk : k < zN (τ 21 0)) : s_exe σ k = k_cmd σ (ψ 19 k) (ψ 20 (3 * k)) (ψ 20 (3 * k + 1)) (ψ 20 (3 * k + 2)) := by
  obtain ⟨a1, q0, hq0, a2⟩ := hag k hk
  rw [← (cmd_1 P h1).1]
  unfold s_exe
  rw [e19, e20, a1]
  refine (cmd_arg (fun q hq => ?_)).symm
  rw [hq0] at hq
  cases hq
  exact ⟨fun w => a2 0 w, fun w => a2 1 w, fun w => a2 2 w⟩
theorem CR.row16 {x : Int32} (C : CR G h0 m ψ B σ h) : CR G h0 m ψ B (ms_u σ 16 0 x) h := by
  obtain ⟨β, κ, e, P, R, S⟩ := C
  refine ⟨β, κ, e, P.of (fun k hk => ms_u_n (by omega)), ?_, S⟩
  have : lk (ms_u σ 16 0 x) κ = lk σ κ := by
    funext k
    by_cases q : k = 7 ∨ k = 16 ∨ 19 ≤ k
    · rw [lk_o q, lk_o q]
    · rw [lk_s q, lk_s q, ms_u_n (by omega)]
  rw [this]
  exact R
/-! what the parse leaves -/
theorem bl_n {k : Nat} (h : k ≠ 22) : t_bl σ k = σ k := sAt_n h
theorem carg_n {to k : Nat} (h : 22 < k) : (c_arg σ to).2 k = σ k := by
  unfold c_arg
  split
  · split
    · split
      · exact sAt_n (by omega)
      · show ms_u _ _ _ _ k = _
        rw [ms_u_n (by omega), bl_n (by omega), sAt_n (by omega)]
    · show ms_u _ _ _ _ k = _
      rw [ms_u_n (by omega), bl_n (by omega), sAt_n (by omega)]
  · rfl
theorem cargs_n {base k : Nat} (h : 22 < k) : ∀ (f j : Nat) (σ : MS), (c_args base f j σ).2 k = σ k
  | 0, _, _ => rfl
  | f + 1, j, σ => by
    unfold c_args
    split
    · rw [cargs_n h f (j + 1), carg_n h]
    · exact carg_n h
theorem ccmd_n {k : Nat} (h : 22 < k) : (c_cmd σ).2 k = σ k := by
  unfold c_cmd
  cases mny (bHere σ) with
  | none => rfl
  | some q =>
    show (if _ then _ else _ : Bool × MS).2 k = _
    split
    · unfold c_end
      split
      · show ms_u (ms_u _ _ _ _) _ _ _ k = _
        rw [ms_u_n (by omega), ms_u_n (by omega), bl_n (by omega), sAt_n (by omega), cargs_n h, bl_n (by omega), sAt_n (by omega)]
      · rw [cargs_n h, bl_n (by omega), sAt_n (by omega)]
    · rw [cargs_n h, bl_n (by omega), sAt_n (by omega)]
theorem call_n {k : Nat} (h : 22 < k) : ∀ (f : Nat) (σ : MS), (c_all f σ).2 k = σ k
  | 0, _ => rfl
  | f + 1, σ => by
    unfold c_all
    split
    · split
      · rw [call_n h f, ccmd_n h]
      · exact ccmd_n h
    · exact ccmd_n h
theorem cpar_n {k : Nat} (hI : mInv σ) (h : k < 19 ∨ 22 < k) : (c_par σ).2 k = σ k := by
  obtain ⟨j1, j2⟩ := ini_ok hI
  unfold c_par
  rcases h with h | h
  · rw [(call_ok _ _ j1).2 k h, j2 k h]
  · rw [call_n h]
    unfold t_ini
    rw [bl_n (by omega), ms_u_n (by omega), ms_u_n (by omega)]
end Run
