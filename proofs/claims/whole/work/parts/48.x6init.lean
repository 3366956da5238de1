/-! the reference's constructor -/
def z0 : MS := fun k _ => if k = 14 then -1 else 0
section X6i
variable {G : GG} {hb : Hp} {y : Nat}
theorem sm_init (hy : hb y = none) : bs_Sp G mX6_init 1 13 3543 [.ref y] (bs_set hb y (.inr (6, [.int 0, .null, .null, .null, .null, .null, .null, .null, .int 0, .null, .null, .int 0, .int 0, .int 0, .int 0, .null, .int 0, .null, .int 0, .null, .null, .int 0, .int 0, .long 0]))) (fun v h' => v = none ∧ ∃ q1 q2 q3 q4 q5 q6 q7 q9 q10 q15 q17 q19 q20, fr y [(q20, .inl (G.2.1 0, 180, .inl (fun _ => 0))), (q19, .inl (G.2.1 0, 60, .inl (fun _ => 0))), (q17, .inl (G.2.1 0, 120, .inl (fun _ => 0))), (q15, .inl (G.2.1 0, 3, .inl (fun _ => 0))), (q10, .inl (G.2.1 0, 60, .inl (fun _ => 0))), (q9, .inl (G.2.1 0, 60, .inl (fun _ => 0))), (q7, .inl (G.2.1 0, 960, .inl (fun _ => 0))), (q6, .inl (G.2.1 0, 960, .inl (fun _ => 0))), (q5, .inl (G.2.1 0, 960, .inl (fun _ => 0))), (q4, .inl (G.2.1 0, 80, .inl (fun _ => 0))), (q3, .inl (G.2.1 0, 80, .inl (fun _ => 0))), (q2, .inl (G.2.1 1, 10, .inl (fun _ => 0))), (q1, .inl (G.2.1 0, 10, .inl (fun _ => 0)))] hb ∧ h' = bs_set (ov [(q20, .inl (G.2.1 0, 180, .inl (fun _ => 0))), (q19, .inl (G.2.1 0, 60, .inl (fun _ => 0))), (q17, .inl (G.2.1 0, 120, .inl (fun _ => 0))), (q15, .inl (G.2.1 0, 3, .inl (fun _ => 0))), (q10, .inl (G.2.1 0, 60, .inl (fun _ => 0))), (q9, .inl (G.2.1 0, 60, .inl (fun _ => 0))), (q7, .inl (G.2.1 0, 960, .inl (fun _ => 0))), (q6, .inl (G.2.1 0, 960, .inl (fun _ => 0))), (q5, .inl (G.2.1 0, 960, .inl (fun _ => 0))), (q4, .inl (G.2.1 0, 80, .inl (fun _ => 0))), (q3, .inl (G.2.1 0, 80, .inl (fun _ => 0))), (q2, .inl (G.2.1 1, 10, .inl (fun _ => 0))), (q1, .inl (G.2.1 0, 10, .inl (fun _ => 0)))] hb) y (.inr (6, [.int 0, .ref q1, .ref q2, .ref q3, .ref q4, .ref q5, .ref q6, .ref q7, .int 0, .ref q9, .ref q10, .int 0, .int 0, .int 0, .int (-1), .ref q15, .int 0, .ref q17, .int 0, .ref q19, .ref q20, .int 0, .int 0, .long 0]))) := by
  have f0 : fr y [] hb := ⟨by simp, hy, fun p hp => by cases hp⟩
  refine bs_Sp.of (by decide) rfl ?_
  refine (show bs_B G _ mX6_init 1 13 3543 (bs_set (ov [] hb) y (.inr (6, [.int 0, .null, .null, .null, .null, .null, .null, .null, .int 0, .null, .null, .int 0, .int 0, .int 0, .int 0, .null, .int 0, .null, .int 0, .null, .null, .int 0, .int 0, .long 0]))) 0 _ _ _ from ?_)
  refine bs_aload_n (pc' := 1) dX6_init_0 rfl rfl rfl ?_
  refine bs_obj (pc' := 4) dX6_init_1 kob_X6 kob_i kob_c (by omega) rfl rfl ?_
  refine bs_aload_n (pc' := 5) dX6_init_4 rfl rfl rfl ?_
  refine bs_bipush (v := 10) (pc' := 7) dX6_init_5 (by decide) rfl ?_
  refine bs_newI (N := 10) (bc' := 12) (bs' := 3533) (pc' := 9) dX6_init_7 kar_I (by decide) rfl (by decide) (by decide) (by decide) rfl (fun q1 g1 => ?_)
  obtain ⟨f1, n1, e1⟩ := fr_new (e := .inl (G.2.1 0, 10, .inl (fun _ => 0))) f0 g1
  refine bs_putF (pc' := 12) kF_X6_7 dX6_init_9 rfl ((bs_set_ne n1.symm).trans bs_set_self) rfl rfl rfl rfl ?_
  rw [e1]
  refine bs_aload_n (pc' := 13) dX6_init_12 rfl rfl rfl ?_
  refine bs_bipush (v := 10) (pc' := 15) dX6_init_13 (by decide) rfl ?_
  refine bs_newZ (N := 10) (bc' := 11) (bs' := 3523) (pc' := 17) dX6_init_15 kar_Z (by decide) rfl (by decide) (by decide) (by decide) rfl (fun q2 g2 => ?_)
  obtain ⟨f2, n2, e2⟩ := fr_new (e := .inl (G.2.1 1, 10, .inl (fun _ => 0))) f1 g2
  refine bs_putF (pc' := 20) kF_X6_13 dX6_init_17 rfl ((bs_set_ne n2.symm).trans bs_set_self) rfl rfl rfl rfl ?_
  rw [e2]
  refine bs_aload_n (pc' := 21) dX6_init_20 rfl rfl rfl ?_
  refine bs_bipush (v := 80) (pc' := 23) dX6_init_21 (by decide) rfl ?_
  refine bs_newI (N := 80) (bc' := 10) (bs' := 3443) (pc' := 25) dX6_init_23 kar_I (by decide) rfl (by decide) (by decide) (by decide) rfl (fun q3 g3 => ?_)
  obtain ⟨f3, n3, e3⟩ := fr_new (e := .inl (G.2.1 0, 80, .inl (fun _ => 0))) f2 g3
  refine bs_putF (pc' := 28) kF_X6_17 dX6_init_25 rfl ((bs_set_ne n3.symm).trans bs_set_self) rfl rfl rfl rfl ?_
  rw [e3]
  refine bs_aload_n (pc' := 29) dX6_init_28 rfl rfl rfl ?_
  refine bs_bipush (v := 80) (pc' := 31) dX6_init_29 (by decide) rfl ?_
  refine bs_newI (N := 80) (bc' := 9) (bs' := 3363) (pc' := 33) dX6_init_31 kar_I (by decide) rfl (by decide) (by decide) (by decide) rfl (fun q4 g4 => ?_)
  obtain ⟨f4, n4, e4⟩ := fr_new (e := .inl (G.2.1 0, 80, .inl (fun _ => 0))) f3 g4
  refine bs_putF (pc' := 36) kF_X6_20 dX6_init_33 rfl ((bs_set_ne n4.symm).trans bs_set_self) rfl rfl rfl rfl ?_
  rw [e4]
  refine bs_aload_n (pc' := 37) dX6_init_36 rfl rfl rfl ?_
  refine bs_sipush (v := 960) (pc' := 40) dX6_init_37 (by decide) rfl ?_
  refine bs_newI (N := 960) (bc' := 8) (bs' := 2403) (pc' := 42) dX6_init_40 kar_I (by decide) rfl (by decide) (by decide) (by decide) rfl (fun q5 g5 => ?_)
  obtain ⟨f5, n5, e5⟩ := fr_new (e := .inl (G.2.1 0, 960, .inl (fun _ => 0))) f4 g5
  refine bs_putF (pc' := 45) kF_X6_23 dX6_init_42 rfl ((bs_set_ne n5.symm).trans bs_set_self) rfl rfl rfl rfl ?_
  rw [e5]
  refine bs_aload_n (pc' := 46) dX6_init_45 rfl rfl rfl ?_
  refine bs_sipush (v := 960) (pc' := 49) dX6_init_46 (by decide) rfl ?_
  refine bs_newI (N := 960) (bc' := 7) (bs' := 1443) (pc' := 51) dX6_init_49 kar_I (by decide) rfl (by decide) (by decide) (by decide) rfl (fun q6 g6 => ?_)
  obtain ⟨f6, n6, e6⟩ := fr_new (e := .inl (G.2.1 0, 960, .inl (fun _ => 0))) f5 g6
  refine bs_putF (pc' := 54) kF_X6_26 dX6_init_51 rfl ((bs_set_ne n6.symm).trans bs_set_self) rfl rfl rfl rfl ?_
  rw [e6]
  refine bs_aload_n (pc' := 55) dX6_init_54 rfl rfl rfl ?_
  refine bs_sipush (v := 960) (pc' := 58) dX6_init_55 (by decide) rfl ?_
  refine bs_newI (N := 960) (bc' := 6) (bs' := 483) (pc' := 60) dX6_init_58 kar_I (by decide) rfl (by decide) (by decide) (by decide) rfl (fun q7 g7 => ?_)
  obtain ⟨f7, n7, e7⟩ := fr_new (e := .inl (G.2.1 0, 960, .inl (fun _ => 0))) f6 g7
  refine bs_putF (pc' := 63) kF_X6_29 dX6_init_60 rfl ((bs_set_ne n7.symm).trans bs_set_self) rfl rfl rfl rfl ?_
  rw [e7]
  refine bs_aload_n (pc' := 64) dX6_init_63 rfl rfl rfl ?_
  refine bs_bipush (v := 60) (pc' := 66) dX6_init_64 (by decide) rfl ?_
  refine bs_newI (N := 60) (bc' := 5) (bs' := 423) (pc' := 68) dX6_init_66 kar_I (by decide) rfl (by decide) (by decide) (by decide) rfl (fun q9 g9 => ?_)
  obtain ⟨f9, n9, e9⟩ := fr_new (e := .inl (G.2.1 0, 60, .inl (fun _ => 0))) f7 g9
  refine bs_putF (pc' := 71) kF_X6_32 dX6_init_68 rfl ((bs_set_ne n9.symm).trans bs_set_self) rfl rfl rfl rfl ?_
  rw [e9]
  refine bs_aload_n (pc' := 72) dX6_init_71 rfl rfl rfl ?_
  refine bs_bipush (v := 60) (pc' := 74) dX6_init_72 (by decide) rfl ?_
  refine bs_newI (N := 60) (bc' := 4) (bs' := 363) (pc' := 76) dX6_init_74 kar_I (by decide) rfl (by decide) (by decide) (by decide) rfl (fun q10 g10 => ?_)
  obtain ⟨f10, n10, e10⟩ := fr_new (e := .inl (G.2.1 0, 60, .inl (fun _ => 0))) f9 g10
  refine bs_putF (pc' := 79) kF_X6_35 dX6_init_76 rfl ((bs_set_ne n10.symm).trans bs_set_self) rfl rfl rfl rfl ?_
  rw [e10]
  refine bs_aload_n (pc' := 80) dX6_init_79 rfl rfl rfl ?_
  refine bs_iconst (v := (-1)) (pc' := 81) dX6_init_80 (by decide) rfl ?_
  refine bs_putf (pc' := 84) kf_X6_38 dX6_init_81 bs_set_self rfl rfl rfl rfl ?_
  rw [bs_set_set]
  refine bs_aload_n (pc' := 85) dX6_init_84 rfl rfl rfl ?_
  refine bs_iconst (v := 3) (pc' := 86) dX6_init_85 (by decide) rfl ?_
  refine bs_newI (N := 3) (bc' := 3) (bs' := 360) (pc' := 88) dX6_init_86 kar_I (by decide) rfl (by decide) (by decide) (by decide) rfl (fun q15 g15 => ?_)
  obtain ⟨f15, n15, e15⟩ := fr_new (e := .inl (G.2.1 0, 3, .inl (fun _ => 0))) f10 g15
  refine bs_putF (pc' := 91) kF_X6_42 dX6_init_88 rfl ((bs_set_ne n15.symm).trans bs_set_self) rfl rfl rfl rfl ?_
  rw [e15]
  refine bs_aload_n (pc' := 92) dX6_init_91 rfl rfl rfl ?_
  refine bs_bipush (v := 120) (pc' := 94) dX6_init_92 (by decide) rfl ?_
  refine bs_newI (N := 120) (bc' := 2) (bs' := 240) (pc' := 96) dX6_init_94 kar_I (by decide) rfl (by decide) (by decide) (by decide) rfl (fun q17 g17 => ?_)
  obtain ⟨f17, n17, e17⟩ := fr_new (e := .inl (G.2.1 0, 120, .inl (fun _ => 0))) f15 g17
  refine bs_putF (pc' := 99) kF_X6_45 dX6_init_96 rfl ((bs_set_ne n17.symm).trans bs_set_self) rfl rfl rfl rfl ?_
  rw [e17]
  refine bs_aload_n (pc' := 100) dX6_init_99 rfl rfl rfl ?_
  refine bs_bipush (v := 60) (pc' := 102) dX6_init_100 (by decide) rfl ?_
  refine bs_newI (N := 60) (bc' := 1) (bs' := 180) (pc' := 104) dX6_init_102 kar_I (by decide) rfl (by decide) (by decide) (by decide) rfl (fun q19 g19 => ?_)
  obtain ⟨f19, n19, e19⟩ := fr_new (e := .inl (G.2.1 0, 60, .inl (fun _ => 0))) f17 g19
  refine bs_putF (pc' := 107) kF_X6_48 dX6_init_104 rfl ((bs_set_ne n19.symm).trans bs_set_self) rfl rfl rfl rfl ?_
  rw [e19]
  refine bs_aload_n (pc' := 108) dX6_init_107 rfl rfl rfl ?_
  refine bs_sipush (v := 180) (pc' := 111) dX6_init_108 (by decide) rfl ?_
  refine bs_newI (N := 180) (bc' := 0) (bs' := 0) (pc' := 113) dX6_init_111 kar_I (by decide) rfl (by decide) (by decide) (by decide) rfl (fun q20 g20 => ?_)
  obtain ⟨f20, n20, e20⟩ := fr_new (e := .inl (G.2.1 0, 180, .inl (fun _ => 0))) f19 g20
  refine bs_putF (pc' := 116) kF_X6_51 dX6_init_113 rfl ((bs_set_ne n20.symm).trans bs_set_self) rfl rfl rfl rfl ?_
  rw [e20]
  exact bs_vret dX6_init_116 rfl ⟨rfl, q1, q2, q3, q4, q5, q6, q7, q9, q10, q15, q17, q19, q20, f20, rfl⟩
end X6i
