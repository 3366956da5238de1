/-! making cells and allocations -/
section Alc
variable {G : GG} {h h' : Hp}
theorem s2_tail {e t p q : Nat} {tg : Int32} {Q : Option Value → Hp → Prop} (hD : d4 e t p q) (hQ : Q none (ce4 G h e t p q (upd (fun _ => 0) 0 tg) (upd (fun _ => 0) 0 0) (upd (fun _ => 0) 0 0) 1 0)) : bs_B G (fun _ => True) mX2_init 1 0 0 (ce4 G h e t p q (fun _ => 0) (fun _ => 0) (fun _ => 0) 0 0) 28 [(0, .ref e), (1, .int tg)] [] Q := by
  refine bs_aload_n (pc' := 29) dX2_init_28 rfl rfl rfl ?_
  refine bs_getf (pc' := 32) kf_X2_9 dX2_init_29 ce_e rfl rfl ?_
  refine bs_iconst (v := 0) (pc' := 33) dX2_init_32 (by decide) rfl ?_
  refine bs_iload_n (pc' := 34) dX2_init_33 rfl rfl ?_
  refine ce_st0 (pc' := 35) dX2_init_34 hD 0 rfl (by decide) rfl ?_
  refine bs_aload_n (pc' := 36) dX2_init_35 rfl rfl rfl ?_
  refine bs_getf (pc' := 39) kf_X2_15 dX2_init_36 ce_e rfl rfl ?_
  refine bs_iconst (v := 0) (pc' := 40) dX2_init_39 (by decide) rfl ?_
  refine bs_iconst (v := 0) (pc' := 41) dX2_init_40 (by decide) rfl ?_
  refine ce_st1 (pc' := 42) dX2_init_41 hD 0 rfl (by decide) rfl ?_
  refine bs_aload_n (pc' := 43) dX2_init_42 rfl rfl rfl ?_
  refine bs_getf (pc' := 46) kf_X2_18 dX2_init_43 ce_e rfl rfl ?_
  refine bs_iconst (v := 0) (pc' := 47) dX2_init_46 (by decide) rfl ?_
  refine bs_iconst (v := 0) (pc' := 48) dX2_init_47 (by decide) rfl ?_
  refine ce_st2 (pc' := 49) dX2_init_48 hD 0 rfl (by decide) rfl ?_
  refine bs_aload_n (pc' := 50) dX2_init_49 rfl rfl rfl ?_
  refine bs_iconst (v := 1) (pc' := 51) dX2_init_50 (by decide) rfl ?_
  refine ce_pt3 (pc' := 54) kf_X2_21 dX2_init_51 rfl ?_
  exact bs_vret dX2_init_54 rfl hQ
theorem s2_init {e : Nat} {tg : Int32} (he : h e = some (.inr (2, [.null, .null, .null, .int 0, .int 0]))) : bs_Sp G mX2_init 1 3 36 [.ref e, .int tg] h (fun v h' => v = none ∧ ∃ t p q, h t = none ∧ h p = none ∧ h q = none ∧ d4 e t p q ∧ h' = ce4 G h e t p q (upd (fun _ => 0) 0 tg) (upd (fun _ => 0) 0 0) (upd (fun _ => 0) 0 0) 1 0) := by
  refine bs_Sp.of (by decide) rfl ?_
  refine bs_aload_n (pc' := 1) dX2_init_0 rfl rfl rfl ?_
  refine bs_obj (pc' := 4) dX2_init_1 kob_X2 kob_i kob_c (by omega) rfl rfl ?_
  refine bs_aload_n (pc' := 5) dX2_init_4 rfl rfl rfl ?_
  refine bs_bipush (v := 12) (pc' := 7) dX2_init_5 (by decide) rfl ?_
  refine bs_newI (N := 12) (bc' := 2) (bs' := 24) (pc' := 9) dX2_init_7 kar_I (by decide) rfl (by decide) (by decide) (by decide) rfl (fun t ht => ?_)
  have te : t ≠ e := fun z => by rw [z, he] at ht; cases ht
  refine bs_putF (pc' := 12) kF_X2_9 dX2_init_9 rfl ((bs_set_ne te.symm).trans he) rfl rfl rfl rfl ?_
  refine bs_aload_n (pc' := 13) dX2_init_12 rfl rfl rfl ?_
  refine bs_bipush (v := 12) (pc' := 15) dX2_init_13 (by decide) rfl ?_
  refine bs_newI (N := 12) (bc' := 1) (bs' := 12) (pc' := 17) dX2_init_15 kar_I (by decide) rfl (by decide) (by decide) (by decide) rfl (fun p hp => ?_)
  have pe : p ≠ e := fun z => by rw [z, bs_set_self] at hp; cases hp
  rw [bs_set_ne pe] at hp
  have pt : p ≠ t := fun z => by rw [z, bs_set_self] at hp; cases hp
  rw [bs_set_ne pt] at hp
  refine bs_putF (pc' := 20) kF_X2_15 dX2_init_17 rfl ((bs_set_ne pe.symm).trans bs_set_self) rfl rfl rfl rfl ?_
  refine bs_aload_n (pc' := 21) dX2_init_20 rfl rfl rfl ?_
  refine bs_bipush (v := 12) (pc' := 23) dX2_init_21 (by decide) rfl ?_
  refine bs_newI (N := 12) (bc' := 0) (bs' := 0) (pc' := 25) dX2_init_23 kar_I (by decide) rfl (by decide) (by decide) (by decide) rfl (fun q hq => ?_)
  have qe : q ≠ e := fun z => by rw [z, bs_set_self] at hq; cases hq
  rw [bs_set_ne qe] at hq
  have qp : q ≠ p := fun z => by rw [z, bs_set_self] at hq; cases hq
  rw [bs_set_ne qp, bs_set_ne qe] at hq
  have qt : q ≠ t := fun z => by rw [z, bs_set_self] at hq; cases hq
  rw [bs_set_ne qt] at hq
  refine bs_putF (pc' := 28) kF_X2_18 dX2_init_25 rfl ((bs_set_ne qe.symm).trans bs_set_self) rfl rfl rfl rfl ?_
  have hD : d4 e t p q := ⟨te, pe, qe, pt, qt, qp⟩
  have hE : bs_set (bs_set (bs_set (bs_set (bs_set (bs_set h t (.inl (G.2.1 0, 12, .inl (fun _ => 0)))) e (.inr (2, [.ref t, .null, .null, .int 0, .int 0]))) p (.inl (G.2.1 0, 12, .inl (fun _ => 0)))) e (.inr (2, [.ref t, .ref p, .null, .int 0, .int 0]))) q (.inl (G.2.1 0, 12, .inl (fun _ => 0)))) e (.inr (2, [.ref t, .ref p, .ref q, .int 0, .int 0])) = ce4 G h e t p q (fun _ => 0) (fun _ => 0) (fun _ => 0) 0 0 := by
    funext a
    unfold ce4
    by_cases a1 : a = e
    · rw [a1, bs_set_self, if_pos rfl]
    · rw [bs_set_ne a1, if_neg a1]
      by_cases a2 : a = q
      · rw [a2, bs_set_self, if_neg qt, if_neg qp, if_pos rfl]
      · rw [bs_set_ne a2, bs_set_ne a1]
        by_cases a3 : a = p
        · rw [a3, bs_set_self, if_neg pt, if_pos rfl]
        · rw [bs_set_ne a3, bs_set_ne a1]
          by_cases a4 : a = t
          · rw [a4, bs_set_self, if_pos rfl]
          · rw [bs_set_ne a4, if_neg a4, if_neg a3, if_neg a2]
  have tl := s2_tail (G := G) (h := h) (tg := tg) (Q := fun v h' => v = none ∧ ∃ t p q, h t = none ∧ h p = none ∧ h q = none ∧ d4 e t p q ∧ h' = ce4 G h e t p q (upd (fun _ => 0) 0 tg) (upd (fun _ => 0) 0 0) (upd (fun _ => 0) 0 0) 1 0) hD ⟨rfl, t, p, q, ht, hp, hq, hD, rfl⟩
  rw [← hE] at tl
  exact tl
/-- what lies at a new cell's four places -/
def nce (G : GG) (γ : Nat → Nat → Nat) (tg : Int32) (k r : Nat) : va_E := match r with
  | 0 => .inr (2, [.ref (γ k 1), .ref (γ k 2), .ref (γ k 3), .int 1, .int 0])
  | 1 => .inl (G.2.1 0, 12, .inl (upd (fun _ => 0) 0 tg))
  | _ => .inl (G.2.1 0, 12, .inl (upd (fun _ => 0) 0 0))
/-- i cells of an allocation are made: h before, h' now; o the allocation, s its row -/
def AI (G : GG) (h : Hp) (o s : Nat) (nm tg : Int32) (m i : Nat) (γ : Nat → Nat → Nat) (h' : Hp) : Prop := s ≠ o ∧ h s = none ∧ h' o = some (.inr (0, [.int nm, .ref s, .int 0])) ∧ h' s = some (.inl (G.2.1 4, m, .inr (.inr (.inr (.inr (rfs i (fun k => γ k 0))))))) ∧ (∀ k r, k < i → r < 4 → h (γ k r) = none ∧ γ k r ≠ o ∧ γ k r ≠ s ∧ h' (γ k r) = some (nce G γ tg k r)) ∧ (∀ k r k' r', k < i → r < 4 → k' < i → r' < 4 → γ k r = γ k' r' → k = k' ∧ r = r') ∧ ∀ b, b ≠ o → b ≠ s → (∀ k r, k < i → r < 4 → γ k r ≠ b) → h' b = h b
def gmx (γ : Nat → Nat → Nat) (i e t p q : Nat) : Nat → Nat → Nat := fun k r => if k = i then (match r with | 0 => e | 1 => t | 2 => p | _ => q) else γ k r
theorem gmx_o {γ : Nat → Nat → Nat} {i e t p q k r : Nat} (hk : k < i) : gmx γ i e t p q k r = γ k r := if_neg (by omega)
theorem gmx_i {γ : Nat → Nat → Nat} {i e t p q r : Nat} : gmx γ i e t p q i r = (match r with | 0 => e | 1 => t | 2 => p | _ => q) := if_pos rfl
/-- one cell more -/
theorem AI.step {o s m i e t p q : Nat} {nm tg : Int32} {γ : Nat → Nat → Nat} (A : AI G h o s nm tg m i γ h') (he : h' e = none) (ht : bs_set h' e (.inr (2, [.null, .null, .null, .int 0, .int 0])) t = none) (hp : bs_set h' e (.inr (2, [.null, .null, .null, .int 0, .int 0])) p = none) (hq : bs_set h' e (.inr (2, [.null, .null, .null, .int 0, .int 0])) q = none) (hD : d4 e t p q) : AI G h o s nm tg m (i + 1) (gmx γ i e t p q) (bs_set (ce4 G (bs_set h' e (.inr (2, [.null, .null, .null, .int 0, .int 0]))) e t p q (upd (fun _ => 0) 0 tg) (upd (fun _ => 0) 0 0) (upd (fun _ => 0) 0 0) 1 0) s (.inl (G.2.1 4, m, .inr (.inr (.inr (.inr (va_up (rfs i (fun k => γ k 0)) i (some e)))))))) := by
  obtain ⟨a1, a2, a3, a4, a5, a6, a7⟩ := A
  rw [bs_set_ne hD.1] at ht
  rw [bs_set_ne hD.2.1] at hp
  rw [bs_set_ne hD.2.2.1] at hq
  have nof : ∀ b, h' b = none → b ≠ o ∧ b ≠ s ∧ (∀ k r, k < i → r < 4 → γ k r ≠ b) ∧ h b = none := by
    intro b hb
    have b1 : b ≠ o := fun z => by rw [z, a3] at hb; cases hb
    have b2 : b ≠ s := fun z => by rw [z, a4] at hb; cases hb
    have b3 : ∀ k r, k < i → r < 4 → γ k r ≠ b := fun k r hk hr z => by
      have := (a5 k r hk hr).2.2.2
      rw [z, hb] at this
      cases this
    exact ⟨b1, b2, b3, (a7 b b1 b2 b3).symm.trans hb⟩
  have ne := nof e he
  have nt := nof t ht
  have np := nof p hp
  have nq := nof q hq
  have four : ∀ r, r < 4 → (gmx γ i e t p q i r = e ∨ gmx γ i e t p q i r = t ∨ gmx γ i e t p q i r = p ∨ gmx γ i e t p q i r = q) := by
    intro r hr
    rw [gmx_i]
    have : r = 0 ∨ r = 1 ∨ r = 2 ∨ r = 3 := by omega
    rcases this with rfl | rfl | rfl | rfl
    · exact Or.inl rfl
    · exact Or.inr (Or.inl rfl)
    · exact Or.inr (Or.inr (Or.inl rfl))
    · exact Or.inr (Or.inr (Or.inr rfl))
  have new : ∀ r, r < 4 → h (gmx γ i e t p q i r) = none ∧ gmx γ i e t p q i r ≠ o ∧ gmx γ i e t p q i r ≠ s ∧ ∀ k r', k < i → r' < 4 → γ k r' ≠ gmx γ i e t p q i r := by
    intro r hr
    rcases four r hr with z | z | z | z <;> rw [z]
    · exact ⟨ne.2.2.2, ne.1, ne.2.1, ne.2.2.1⟩
    · exact ⟨nt.2.2.2, nt.1, nt.2.1, nt.2.2.1⟩
    · exact ⟨np.2.2.2, np.1, np.2.1, np.2.2.1⟩
    · exact ⟨nq.2.2.2, nq.1, nq.2.1, nq.2.2.1⟩
  refine ⟨a1, a2, ?_, ?_, fun k r hk hr => ?_, fun k r k' r' hk hr hk' hr' z => ?_, fun b b1 b2 b3 => ?_⟩
  · rw [bs_set_ne a1.symm, ce_o ne.1.symm nt.1.symm np.1.symm nq.1.symm, bs_set_ne ne.1.symm]
    exact a3
  · rw [bs_set_self, rfs_up (q := e) (g' := fun k => gmx γ i e t p q k 0) gmx_i (fun k hk => gmx_o hk)]
  · by_cases z : k = i
    · subst z
      obtain ⟨n1, n2, n3, -⟩ := new r hr
      refine ⟨n1, n2, n3, ?_⟩
      rw [bs_set_ne n3]
      have : r = 0 ∨ r = 1 ∨ r = 2 ∨ r = 3 := by omega
      rcases this with rfl | rfl | rfl | rfl
      · rw [gmx_i]
        show ce4 _ _ _ _ _ _ _ _ _ _ _ e = _
        rw [ce_e]
        simp only [nce, gmx_i]
      · rw [gmx_i]
        exact ce_t hD
      · rw [gmx_i]
        exact ce_p hD
      · rw [gmx_i]
        exact ce_q hD
    · have hk' : k < i := by omega
      obtain ⟨n1, n2, n3, n4⟩ := a5 k r hk' hr
      rw [gmx_o hk']
      refine ⟨n1, n2, n3, ?_⟩
      rw [bs_set_ne n3, ce_o (ne.2.2.1 k r hk' hr) (nt.2.2.1 k r hk' hr) (np.2.2.1 k r hk' hr) (nq.2.2.1 k r hk' hr), bs_set_ne (ne.2.2.1 k r hk' hr), n4]
      unfold nce
      rw [gmx_o hk', gmx_o hk', gmx_o hk']
  · by_cases w : k = i
    · by_cases w' : k' = i
      · subst w
        subst w'
        refine ⟨rfl, ?_⟩
        rw [gmx_i, gmx_i] at z
        have d1 := hD.1
        have d2 := hD.2.1
        have d3 := hD.2.2.1
        have d5 := hD.2.2.2.1
        have d6 := hD.2.2.2.2.1
        have d7 := hD.2.2.2.2.2
        have q1 : r = 0 ∨ r = 1 ∨ r = 2 ∨ r = 3 := by omega
        have q2 : r' = 0 ∨ r' = 1 ∨ r' = 2 ∨ r' = 3 := by omega
        rcases q1 with rfl | rfl | rfl | rfl <;> rcases q2 with rfl | rfl | rfl | rfl <;> first | rfl | exact absurd z d1 | exact absurd z d2 | exact absurd z d3 | exact absurd z d5 | exact absurd z d6 | exact absurd z d7 | exact absurd z.symm d1 | exact absurd z.symm d2 | exact absurd z.symm d3 | exact absurd z.symm d5 | exact absurd z.symm d6 | exact absurd z.symm d7
      · subst w
        rw [gmx_o (k := k') (by omega)] at z
        exact absurd z.symm ((new r hr).2.2.2 k' r' (by omega) hr')
    · by_cases w' : k' = i
      · subst w'
        rw [gmx_o (k := k) (by omega)] at z
        exact absurd z ((new r' hr').2.2.2 k r (by omega) hr)
      · rw [gmx_o (by omega), gmx_o (by omega)] at z
        exact a6 k r k' r' (by omega) hr (by omega) hr' z
  · have f : ∀ r, r < 4 → gmx γ i e t p q i r ≠ b := fun r hr => b3 i r (by omega) hr
    have f0 : b ≠ e := fun z => f 0 (by decide) (by rw [gmx_i]; exact z.symm)
    have f1 : b ≠ t := fun z => f 1 (by decide) (by rw [gmx_i]; exact z.symm)
    have f2 : b ≠ p := fun z => f 2 (by decide) (by rw [gmx_i]; exact z.symm)
    have f3 : b ≠ q := fun z => f 3 (by decide) (by rw [gmx_i]; exact z.symm)
    rw [bs_set_ne b2, ce_o f0 f1 f2 f3, bs_set_ne f0]
    exact a7 b b1 b2 (fun k r hk hr z => b3 k r (by omega) hr (by rw [gmx_o hk]; exact z))
theorem s0_init {o m : Nat} {nm tg : Int32} (ho : h o = some (.inr (0, [.int 0, .null, .int 0]))) (hm : m ≤ 8) : bs_Sp G mX0_init 2 (1 + 4 * m) (m + 41 * m) [.ref o, .int nm, .int (nI m), .int tg] h (fun v h' => v = none ∧ ∃ s γ, AI G h o s nm tg m m γ h') := by
  refine bs_Sp.of (by decide) rfl ?_
  have loop : ∀ f i s γ h', i + f = m → AI G h o s nm tg m i γ h' → bs_B G (fun _ => True) mX0_init 2 (4 * f) (41 * f) h' 20 [(0, .ref o), (1, .int nm), (2, .int (nI m)), (3, .int tg), (4, .int (nI i))] [] (fun v h' => v = none ∧ ∃ s γ, AI G h o s nm tg m m γ h') := by
    intro f
    induction f with
    | zero =>
      intro i s γ h' hi A
      obtain rfl : i = m := by omega
      refine bs_iload (pc' := 22) dX0_init_20 rfl rfl ?_
      refine bs_iload_n (pc' := 23) dX0_init_22 rfl rfl ?_
      refine bs_icmp_ge (tgt := 47) (pc' := 26) dX0_init_23 rfl rfl (fun _ => ?_) (fun c23 => absurd (Int32.le_refl _) c23)
      exact bs_vret dX0_init_47 rfl ⟨rfl, s, γ, A⟩
    | succ f ih =>
      intro i s γ h' hi A
      refine bs_iload (pc' := 22) dX0_init_20 rfl rfl ?_
      refine bs_iload_n (pc' := 23) dX0_init_22 rfl rfl ?_
      refine bs_icmp_ge (tgt := 47) (pc' := 26) dX0_init_23 rfl rfl (fun c23 => absurd c23 (nI_ge (by omega) (by omega))) (fun _ => ?_)
      refine bs_aload_n (pc' := 27) dX0_init_26 rfl rfl rfl ?_
      refine bs_getf (pc' := 30) kf_X0_17 dX0_init_27 A.2.2.1 rfl rfl ?_
      refine bs_iload (pc' := 32) dX0_init_30 rfl rfl ?_
      refine bs_new (bc' := 4 * f + 3) (bs' := 41 * f + 36) (fs := [.null, .null, .null, .int 0, .int 0]) (pc' := 35) dX0_init_32 cl_2 kk_X0_15 kin_2 ko_X2_init.2.1 (fun j hj => by
        have : j = 0 ∨ j = 1 ∨ j = 2 ∨ j = 3 ∨ j = 4 := by omega
        rcases this with rfl | rfl | rfl | rfl | rfl <;> rfl) (by omega) (by omega) rfl (fun e he => ?_)
      have es : s ≠ e := fun z => by rw [← z, A.2.2.2.1] at he; cases he
      refine bs_dup (pc' := 36) dX0_init_35 rfl rfl ?_
      refine bs_iload_n (pc' := 37) dX0_init_36 rfl rfl ?_
      refine bs_callI (N := mX2_init) (pc' := 40) dX0_init_37 km_X0_21 ko_X2_init (s2_init bs_set_self) rfl rfl rfl (by omega) (Nat.le_refl _) (Nat.le_refl _) rfl ?_
      rintro _ _ ⟨rfl, t, p, q, ht, hp, hq, hD, rfl⟩
      have st : s ≠ t := fun z => by rw [← z, bs_set_ne es, A.2.2.2.1] at ht; cases ht
      have sp : s ≠ p := fun z => by rw [← z, bs_set_ne es, A.2.2.2.1] at hp; cases hp
      have sq : s ≠ q := fun z => by rw [← z, bs_set_ne es, A.2.2.2.1] at hq; cases hq
      have A1 := A.step he ht hp hq hD
      refine bs_aast (t := 4) (n := m) (ci := 2) (pc' := 41) dX0_init_40 ((ce_o es st sp sq).trans ((bs_set_ne es).trans A.2.2.2.1)) (by decide) ce_e rfl rfl (vp_in_nI (show i < m by omega) (by omega)) rfl ?_
      rw [show (nI i).toNatClampNeg = i from zN_nI (by omega)]
      refine bs_iinc (pc' := 44) (lv' := [(0, _), (1, _), (2, _), (3, _), (4, _)]) dX0_init_41 rfl (nI_i1 i) rfl rfl rfl ?_
      refine bs_goto (tgt := 20) dX0_init_44 rfl ?_
      exact ih (i + 1) s _ _ (by omega) A1
  refine bs_aload_n (pc' := 1) dX0_init_0 rfl rfl rfl ?_
  refine bs_obj (pc' := 4) dX0_init_1 kob_X0 kob_i kob_c (by omega) rfl rfl ?_
  refine bs_aload_n (pc' := 5) dX0_init_4 rfl rfl rfl ?_
  refine bs_iload_n (pc' := 6) dX0_init_5 rfl rfl ?_
  refine bs_putF (pc' := 9) kF_X0_9 dX0_init_6 rfl ho rfl rfl rfl rfl ?_
  refine bs_aload_n (pc' := 10) dX0_init_9 rfl rfl rfl ?_
  refine bs_iload_n (pc' := 11) dX0_init_10 rfl rfl ?_
  refine bs_newq (t := 4) (N := m) (bc' := 4 * m) (bs' := 41 * m) (pc' := 14) dX0_init_11 (by decide) kk_X0_15 kao_2 (Int32.not_lt.mpr (nI_pos' (by omega))) (zN_nI (by omega)) (by omega) (by omega) (by omega) rfl (fun s hs => ?_)
  have so : s ≠ o := fun z => by rw [z, bs_set_self] at hs; cases hs
  rw [bs_set_ne so] at hs
  refine bs_putF (pc' := 17) kF_X0_17 dX0_init_14 rfl ((bs_set_ne so.symm).trans bs_set_self) rfl rfl rfl rfl ?_
  refine bs_iconst (v := 0) (pc' := 18) dX0_init_17 (by decide) rfl ?_
  refine bs_istore (pc' := 20) (lv' := [(0, _), (1, _), (2, _), (3, _), (4, _)]) dX0_init_18 rfl rfl rfl ?_
  refine loop m 0 s (fun _ _ => 0) _ (Nat.zero_add _) ⟨so, hs, bs_set_self, ?_, fun k r hk => absurd hk (by omega), fun k r k' r' hk => absurd hk (by omega), fun b b1 b2 b3 => ?_⟩
  · rw [bs_set_ne so, bs_set_self]
    have e0 : rfs 0 (fun k => (fun (_ _ : Nat) => (0 : Nat)) k 0) = fun _ => none := by
      funext k
      unfold rfs
      rw [if_neg (by omega)]
    rw [e0]
  · rw [bs_set_ne b1, bs_set_ne b2, bs_set_ne b1]
end Alc
