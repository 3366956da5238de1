/-! the constructors -/
section Ctor
variable {G : GG} {h : Hp}
theorem s1_init {k : Nat} (hk : h k = some (.inr (1, [.null, .int 0, .int 0]))) : bs_Sp G mX1_init 1 1 5 [.ref k] h (fun v h' => v = none ∧ ∃ s, h s = none ∧ s ≠ k ∧ h' = ck2 G h k s (fun _ => 0) 0 0) := by
  refine bs_Sp.of (by decide) rfl ?_
  refine bs_aload_n (pc' := 1) dX1_init_0 rfl rfl rfl ?_
  refine bs_obj (pc' := 4) dX1_init_1 kob_X1 kob_i kob_c (by omega) rfl rfl ?_
  refine bs_aload_n (pc' := 5) dX1_init_4 rfl rfl rfl ?_
  refine bs_iconst (v := 5) (pc' := 6) dX1_init_5 (by decide) rfl ?_
  refine bs_newI (N := 5) (bc' := 0) (bs' := 0) (pc' := 8) dX1_init_6 kar_I (by decide) rfl (by decide) (by decide) (by decide) rfl (fun s hs => ?_)
  have sk : s ≠ k := fun z => by rw [z, hk] at hs; cases hs
  refine bs_putF (pc' := 11) kF_X1_9 dX1_init_8 rfl ((bs_set_ne sk.symm).trans hk) rfl rfl rfl rfl ?_
  refine bs_aload_n (pc' := 12) dX1_init_11 rfl rfl rfl ?_
  refine bs_iconst (v := 0) (pc' := 13) dX1_init_12 (by decide) rfl ?_
  refine bs_putf (pc' := 16) kf_X1_15 dX1_init_13 bs_set_self rfl rfl rfl rfl ?_
  exact bs_vret dX1_init_16 rfl ⟨rfl, s, hs, sk, by
    funext a
    unfold ck2
    by_cases a1 : a = k
    · rw [a1, bs_set_self, if_pos rfl]
      rfl
    · rw [bs_set_ne a1, bs_set_ne a1, if_neg a1]
      by_cases a2 : a = s
      · rw [a2, bs_set_self, if_pos rfl]
      · rw [bs_set_ne a2, if_neg a2]⟩
theorem s4_init {o : Nat} (ho : h o = some (.inr (4, [.null, .int 0, .null, .null, .int 0, .int 0]))) : bs_Sp G mX4_init 1 3 360 [.ref o] h (fun v h' => v = none ∧ ∃ x l r, h x = none ∧ h l = none ∧ h r = none ∧ d4 o x l r ∧ h' = skH G h o x l r (fun _ _ => 0)) := by
  refine bs_Sp.of (by decide) rfl ?_
  refine bs_aload_n (pc' := 1) dX4_init_0 rfl rfl rfl ?_
  refine bs_obj (pc' := 4) dX4_init_1 kob_X4 kob_i kob_c (by omega) rfl rfl ?_
  refine bs_aload_n (pc' := 5) dX4_init_4 rfl rfl rfl ?_
  refine bs_bipush (v := 120) (pc' := 7) dX4_init_5 (by decide) rfl ?_
  refine bs_newI (N := 120) (bc' := 2) (bs' := 240) (pc' := 9) dX4_init_7 kar_I (by decide) rfl (by decide) (by decide) (by decide) rfl (fun t ht => ?_)
  have te : t ≠ o := fun z => by rw [z, ho] at ht; cases ht
  refine bs_putF (pc' := 12) kF_X4_9 dX4_init_9 rfl ((bs_set_ne te.symm).trans ho) rfl rfl rfl rfl ?_
  refine bs_aload_n (pc' := 13) dX4_init_12 rfl rfl rfl ?_
  refine bs_bipush (v := 60) (pc' := 15) dX4_init_13 (by decide) rfl ?_
  refine bs_newI (N := 60) (bc' := 1) (bs' := 180) (pc' := 17) dX4_init_15 kar_I (by decide) rfl (by decide) (by decide) (by decide) rfl (fun p hp => ?_)
  have pe : p ≠ o := fun z => by rw [z, bs_set_self] at hp; cases hp
  rw [bs_set_ne pe] at hp
  have pt : p ≠ t := fun z => by rw [z, bs_set_self] at hp; cases hp
  rw [bs_set_ne pt] at hp
  refine bs_putF (pc' := 20) kF_X4_15 dX4_init_17 rfl ((bs_set_ne pe.symm).trans bs_set_self) rfl rfl rfl rfl ?_
  refine bs_aload_n (pc' := 21) dX4_init_20 rfl rfl rfl ?_
  refine bs_sipush (v := 180) (pc' := 24) dX4_init_21 (by decide) rfl ?_
  refine bs_newI (N := 180) (bc' := 0) (bs' := 0) (pc' := 26) dX4_init_24 kar_I (by decide) rfl (by decide) (by decide) (by decide) rfl (fun q hq => ?_)
  have qe : q ≠ o := fun z => by rw [z, bs_set_self] at hq; cases hq
  rw [bs_set_ne qe] at hq
  have qp : q ≠ p := fun z => by rw [z, bs_set_self] at hq; cases hq
  rw [bs_set_ne qp, bs_set_ne qe] at hq
  have qt : q ≠ t := fun z => by rw [z, bs_set_self] at hq; cases hq
  rw [bs_set_ne qt] at hq
  refine bs_putF (pc' := 29) kF_X4_18 dX4_init_26 rfl ((bs_set_ne qe.symm).trans bs_set_self) rfl rfl rfl rfl ?_
  exact bs_vret dX4_init_29 rfl ⟨rfl, t, p, q, ht, hp, hq, ⟨te, pe, qe, pt, qt, qp⟩, by
    funext a
    unfold skH
    by_cases a1 : a = o
    · rw [a1, bs_set_self, if_pos rfl]
      rfl
    · rw [bs_set_ne a1, if_neg a1]
      by_cases a2 : a = q
      · rw [a2, bs_set_self, if_neg qt, if_neg qp, if_pos rfl]
      · rw [bs_set_ne a2, bs_set_ne a1]
        by_cases a3 : a = p
        · rw [a3, bs_set_self, if_neg pt, if_pos rfl]
        · rw [bs_set_ne a3, bs_set_ne a1]
          by_cases a4 : a = t
          · rw [a4, bs_set_self, if_pos rfl]
          · rw [bs_set_ne a4, if_neg a4, if_neg a3, if_neg a2]⟩
end Ctor
