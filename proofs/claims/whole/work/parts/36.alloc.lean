/-! making cells and allocations -/
section Alc
variable {G : GG} {h h' : Hp}
theorem s2_init {e : Nat} {tg : Int32} (he : h e = some (.inr (2, [.null, .null, .null, .int 0, .int 0]))) : bs_Sp G mX2_init 1 3 36 [.ref e, .int tg] h (fun v h' => v = none ∧ ∃ t p q, h t = none ∧ h p = none ∧ h q = none ∧ d4 e t p q ∧ h' = ce4 G h e t p q (upd (fun _ => 0) 0 tg) (upd (fun _ => 0) 0 0) (upd (fun _ => 0) 0 0) 1 0) := by
  refine bs_Sp.of (by decide) rfl ?_
  refine bs_aload_n (pc' := 1) dX2_init_0 rfl rfl rfl ?_
  refine bs_obj (pc' := 4) dX2_init_1 kob_X2 kob_i kob_c (by omega) rfl rfl ?_
  refine bs_aload_n (pc' := 5) dX2_init_4 rfl rfl rfl ?_
  refine bs_bipush (v := 12) (pc' := 7) dX2_init_5 (by decide) rfl ?_
  refine bs_newI (N := 12) (bc' := 2) (bs' := 24) (pc' := 9) dX2_init_7 kar_I (by decide) rfl (by decide) (by decide) (by decide) rfl (fun t ht => ?_)
  have te : t ≠ e := fun z => by rw [z, he] at ht; cases ht
  refine bs_putF (pc' := 12) kF_X2_9 dX2_init_9 rfl ((bs_set_ne te.symm).trans he) rfl rfl rfl rfl ?_
  refine bs_aload_n (pc' := 13) dX2_init_12 rfl rfl rfl ?_
  refine bs_bipush (v := 12) (pc' := 15) dX2_init_13 (by decide) rfl ?_
  refine bs_newI (N := 12) (bc' := 1) (bs' := 12) (pc' := 17) dX2_init_15 kar_I (by decide) rfl (by decide) (by decide) (by decide) rfl (fun p hp => ?_)
  have pe : p ≠ e := fun z => by rw [z, bs_set_self] at hp; cases hp
  rw [bs_set_ne pe] at hp
  have pt : p ≠ t := fun z => by rw [z, bs_set_self] at hp; cases hp
  rw [bs_set_ne pt] at hp
  refine bs_putF (pc' := 20) kF_X2_15 dX2_init_17 rfl ((bs_set_ne pe.symm).trans bs_set_self) rfl rfl rfl rfl ?_
  refine bs_aload_n (pc' := 21) dX2_init_20 rfl rfl rfl ?_
  refine bs_bipush (v := 12) (pc' := 23) dX2_init_21 (by decide) rfl ?_
  refine bs_newI (N := 12) (bc' := 0) (bs' := 0) (pc' := 25) dX2_init_23 kar_I (by decide) rfl (by decide) (by decide) (by decide) rfl (fun q hq => ?_)
  have qe : q ≠ e := fun z => by rw [z, bs_set_self] at hq; cases hq
  rw [bs_set_ne qe] at hq
  have qp : q ≠ p := fun z => by rw [z, bs_set_self] at hq; cases hq
  rw [bs_set_ne qp, bs_set_ne qe] at hq
  have qt : q ≠ t := fun z => by rw [z, bs_set_self] at hq; cases hq
  rw [bs_set_ne qt] at hq
  refine bs_putF (pc' := 28) kF_X2_18 dX2_init_25 rfl ((bs_set_ne qe.symm).trans bs_set_self) rfl rfl rfl rfl ?_
  have hD : d4 e t p q := ⟨te, pe, qe, pt, qt, qp⟩
  have hE : bs_set (bs_set (bs_set (bs_set (bs_set (bs_set h t (.inl (G.2.1 0, 12, .inl (fun _ => 0)))) e (.inr (2, [.ref t, .null, .null, .int 0, .int 0]))) p (.inl (G.2.1 0, 12, .inl (fun _ => 0)))) e (.inr (2, [.ref t, .ref p, .null, .int 0, .int 0]))) q (.inl (G.2.1 0, 12, .inl (fun _ => 0)))) e (.inr (2, [.ref t, .ref p, .ref q, .int 0, .int 0])) = ce4 G h e t p q (fun _ => 0) (fun _ => 0) (fun _ => 0) 0 0 := by
    funext a
    unfold ce4
    by_cases a1 : a = e
    · rw [a1, bs_set_self, if_pos rfl]
    · rw [bs_set_ne a1, if_neg a1]
      by_cases a2 : a = q
      · rw [a2, bs_set_self, if_neg qt, if_neg qp, if_pos rfl]
      · rw [bs_set_ne a2, bs_set_ne a1]
        by_cases a3 : a = p
        · rw [a3, bs_set_self, if_neg pt, if_pos rfl]
        · rw [bs_set_ne a3, bs_set_ne a1]
          by_cases a4 : a = t
          · rw [a4, bs_set_self, if_pos rfl]
          · rw [bs_set_ne a4, if_neg a4, if_neg a3, if_neg a2]
  refine (fun z => hE ▸ z : bs_B G _ mX2_init 1 0 0 (ce4 G h e t p q (fun _ => 0) (fun _ => 0) (fun _ => 0) 0 0) 28 _ _ _ → bs_B G _ mX2_init 1 0 0 _ 28 _ _ _) ?_
  refine bs_aload_n (pc' := 29) dX2_init_28 rfl rfl rfl ?_
  refine bs_getf (pc' := 32) kf_X2_9 dX2_init_29 ce_e rfl rfl ?_
  refine bs_iconst (v := 0) (pc' := 33) dX2_init_32 (by decide) rfl ?_
  refine bs_iload_n (pc' := 34) dX2_init_33 rfl rfl ?_
  refine bs_iast (pc' := 35) dX2_init_34 (by assumption) ce_st0 HOOK rfl ?_
  refine bs_aload_n (pc' := 36) dX2_init_35 rfl rfl rfl ?_
  refine bs_getf (pc' := 39) kf_X2_15 dX2_init_36 (by assumption) rfl rfl ?_
  refine bs_iconst (v := 0) (pc' := 40) dX2_init_39 (by decide) rfl ?_
  refine bs_iconst (v := 0) (pc' := 41) dX2_init_40 (by decide) rfl ?_
  refine bs_iast (pc' := 42) dX2_init_41 (by assumption) (by assumption) rfl ?_
  refine bs_aload_n (pc' := 43) dX2_init_42 rfl rfl rfl ?_
  refine bs_getf (pc' := 46) kf_X2_18 dX2_init_43 (by assumption) rfl rfl ?_
  refine bs_iconst (v := 0) (pc' := 47) dX2_init_46 (by decide) rfl ?_
  refine bs_iconst (v := 0) (pc' := 48) dX2_init_47 (by decide) rfl ?_
  refine bs_iast (pc' := 49) dX2_init_48 (by assumption) (by assumption) rfl ?_
  refine bs_aload_n (pc' := 50) dX2_init_49 rfl rfl rfl ?_
  refine bs_iconst (v := 1) (pc' := 51) dX2_init_50 (by decide) rfl ?_
  refine bs_putf (pc' := 54) kf_X2_21 dX2_init_51 (by assumption) rfl rfl rfl rfl ?_
  exact bs_vret dX2_init_54 rfl ⟨rfl, rfl⟩
end Alc
