section X5c
variable {G : GG} {hb : Hp} {m : Nat}
theorem p_init (hm : hb m = none) : bs_Sp G mX5_init 2 9 447 [.ref m] (bs_set hb m (.inr (5, [.null, .int 0, .null, .int 0, .null, .null, .null, .int 0, .int 0, .int 0]))) (fun v h' => v = none ∧ CR G hb m (fun _ _ => 0) 0 z0 h') := by
  have f0 : fr m [] hb := ⟨by simp, hm, fun p hp => by cases hp⟩
  refine bs_Sp.of (by decide) rfl ?_
  refine (show bs_B G _ mX5_init 2 9 447 (bs_set (ov [] hb) m (.inr (5, [.null, .int 0, .null, .int 0, .null, .null, .null, .int 0, .int 0, .int 0]))) 0 _ _ _ from ?_)
  refine bs_aload_n (pc' := 1) dX5_init_0 rfl rfl rfl ?_
  refine bs_obj (pc' := 4) dX5_init_1 kob_X5 kob_i kob_c (by omega) rfl rfl ?_
  refine bs_aload_n (pc' := 5) dX5_init_4 rfl rfl rfl ?_
  refine bs_bipush (v := 10) (pc' := 7) dX5_init_5 (by decide) rfl ?_
  refine bs_newq (t := 2) (N := 10) (bc' := 8) (bs' := 437) (pc' := 10) dX5_init_7 (by decide) kk_X5_9 kao_0 (by decide) rfl (by decide) (by decide) (by decide) rfl (fun q1 g1 => ?_)
  obtain ⟨f1, n1, e1⟩ := fr_new (e := rRow G 2 10 (fun _ => none)) f0 g1
  refine bs_putF (pc' := 13) kF_X5_11 dX5_init_10 rfl ((bs_set_ne n1.symm).trans bs_set_self) rfl rfl rfl rfl ?_
  refine (show bs_B G _ mX5_init 2 8 437 (bs_set (bs_set (bs_set (ov [] hb) m _) q1 (rRow G 2 10 (fun _ => none))) m _) 13 _ _ _ from ?_)
  rw [e1]
  refine bs_aload_n (pc' := 14) dX5_init_13 rfl rfl rfl ?_
  refine bs_bipush (v := 60) (pc' := 16) dX5_init_14 (by decide) rfl ?_
  refine bs_newq (t := 3) (N := 60) (bc' := 7) (bs' := 377) (pc' := 19) dX5_init_16 (by decide) kk_X5_15 kao_3 (by decide) rfl (by decide) (by decide) (by decide) rfl (fun q2 g2 => ?_)
  obtain ⟨f2, n2, e2⟩ := fr_new (e := rRow G 3 60 (fun _ => none)) f1 g2
  refine bs_putF (pc' := 22) kF_X5_17 dX5_init_19 rfl ((bs_set_ne n2.symm).trans bs_set_self) rfl rfl rfl rfl ?_
  refine (show bs_B G _ mX5_init 2 7 377 (bs_set (bs_set (bs_set (ov _ hb) m _) q2 (rRow G 3 60 (fun _ => none))) m _) 22 _ _ _ from ?_)
  rw [e2]
  refine bs_aload_n (pc' := 23) dX5_init_22 rfl rfl rfl ?_
  refine bs_new (bc' := 6) (bs' := 374) (fs := [.null, .int 0, .int 0]) (pc' := 26) dX5_init_23 cl_1 kk_X5_21 kin_1 ko_X1_init.2.1 (fun j hj => by
    have : j = 0 ∨ j = 1 ∨ j = 2 := by omega
    rcases this with rfl | rfl | rfl <;> rfl) (by decide) (by decide) rfl (fun k gk => ?_)
  refine bs_dup (pc' := 27) dX5_init_26 rfl rfl ?_
  refine bs_callI (N := mX1_init) (pc' := 30) dX5_init_27 km_X5_23 ko_X1_init (s1_init bs_set_self) rfl rfl rfl (by omega) (Nat.le_refl _) (Nat.le_refl _) rfl ?_
  rintro _ _ ⟨rfl, s, hs, sk, rfl⟩
  obtain ⟨f3, km, sm, e3⟩ := ck_ov (G := G) (ser := fun _ => 0) (dp := 0) (lat := 0) f2 gk hs sk
  refine bs_putF (pc' := 33) kF_X5_24 dX5_init_30 rfl ((ck_o km.symm sm.symm).trans ((bs_set_ne km.symm).trans bs_set_self)) rfl rfl rfl rfl ?_
  rw [e3]
  refine bs_aload_n (pc' := 34) dX5_init_33 rfl rfl rfl ?_
  refine bs_new (bc' := 4) (bs' := 363) (fs := [.null, .int 0, .null, .null, .int 0, .int 0]) (pc' := 37) dX5_init_34 cl_4 kk_X5_28 kin_4 ko_X4_init.2.1 (fun j hj => by
    have : j = 0 ∨ j = 1 ∨ j = 2 ∨ j = 3 ∨ j = 4 ∨ j = 5 := by omega
    rcases this with rfl | rfl | rfl | rfl | rfl | rfl <;> rfl) (by decide) (by decide) rfl (fun o go => ?_)
  refine bs_dup (pc' := 38) dX5_init_37 rfl rfl ?_
  refine bs_callI (N := mX4_init) (pc' := 41) dX5_init_38 km_X5_30 ko_X4_init (s4_init bs_set_self) rfl rfl rfl (by omega) (Nat.le_refl _) (Nat.le_refl _) rfl ?_
  rintro _ _ ⟨rfl, x, l, r, hx, hl, hr, hD, rfl⟩
  obtain ⟨f4, om, xm, lm, rm, e4⟩ := sk_ov (G := G) (ψ := fun _ _ => 0) f3 go hx hl hr hD
  refine bs_putF (pc' := 44) kF_X5_31 dX5_init_41 rfl ((sk_ot om.symm xm.symm lm.symm rm.symm).trans ((bs_set_ne om.symm).trans bs_set_self)) rfl rfl rfl rfl ?_
  rw [e4]
  refine bs_aload_n (pc' := 45) dX5_init_44 rfl rfl rfl ?_
  refine bs_iconst (v := 3) (pc' := 46) dX5_init_45 (by decide) rfl ?_
  refine bs_newI (N := 3) (bc' := 0) (bs' := 0) (pc' := 48) dX5_init_46 kar_I (by decide) rfl (by decide) (by decide) (by decide) rfl (fun e ge => ?_)
  obtain ⟨f5, n5, e5⟩ := fr_new (e := iRow G 3 (fun _ => 0)) f4 ge
  refine bs_putF (pc' := 51) kF_X5_35 dX5_init_48 rfl ((bs_set_ne n5.symm).trans bs_set_self) rfl rfl rfl rfl ?_
  refine (show bs_B G _ mX5_init 2 0 0 (bs_set (bs_set (bs_set (ov _ hb) m _) e (iRow G 3 (fun _ => 0))) m _) 51 _ _ _ from ?_)
  rw [e5]
  refine bs_aload_n (pc' := 52) dX5_init_51 rfl rfl rfl ?_
  refine bs_iconst (v := 0) (pc' := 53) dX5_init_52 (by decide) rfl ?_
  refine bs_putf (pc' := 56) kf_X5_39 dX5_init_53 bs_set_self rfl rfl rfl rfl ?_
  refine bs_aload_n (pc' := 57) dX5_init_56 rfl rfl rfl ?_
  refine bs_iconst (v := (-1)) (pc' := 58) dX5_init_57 (by decide) rfl ?_
  refine bs_putf (pc' := 61) kf_X5_43 dX5_init_58 bs_set_self rfl rfl rfl rfl ?_
  rw [bs_set_set, bs_set_set]
  have nd : [m, e, r, l, x, o, s, k, q2, q1].Nodup := f5.1
  have nd2 := (List.nodup_cons.mp f5.1).2
  have nm : ∀ b, b ∈ [e, r, l, x, o, s, k, q2, q1] → b ≠ m := fun b hb' z => (List.nodup_cons.mp nd).1 (z ▸ hb')
  refine bs_vret dX5_init_61 rfl ⟨rfl, CR_z0 (a := q1) (p := q2) (k := k) (s := s) (o := o) (x := x) (l := l) (r := r) (e := e) nd (fun j hj => ?_) (fun j hj => ?_) (fun b hb' => ?_)⟩
  · have c1 : j = 0 ∨ j = 1 ∨ j = 2 ∨ j = 3 ∨ j = 4 ∨ j = 5 ∨ j = 6 ∨ j = 7 ∨ j = 8 ∨ j = 9 := by omega
    have all := f5.2.2
    simp only [List.mem_cons, List.not_mem_nil, or_false, forall_eq_or_imp, forall_eq] at all
    obtain ⟨w9, w8, w7, w6, w5, w4, w3, w2, w1⟩ := all
    rcases c1 with rfl | rfl | rfl | rfl | rfl | rfl | rfl | rfl | rfl | rfl
    · exact hm
    · exact w1
    · exact w2
    · exact w3
    · exact w4
    · exact w5
    · exact w6
    · exact w7
    · exact w8
    · exact w9
  · have c1 : j = 0 ∨ j = 1 ∨ j = 2 ∨ j = 3 ∨ j = 4 ∨ j = 5 ∨ j = 6 ∨ j = 7 ∨ j = 8 ∨ j = 9 := by omega
    have r0 : ∀ g : Nat → Nat, rfs 0 g = fun _ => none := fun g => by
      funext i
      unfold rfs
      rw [if_neg (by omega)]
    rcases c1 with rfl | rfl | rfl | rfl | rfl | rfl | rfl | rfl | rfl | rfl
    · exact bs_set_self
    · refine (bs_set_ne (nm q1 (by simp))).trans ((ov_at nd2 (q1, rRow G 2 10 (fun _ => none)) (by simp)).trans ?_)
      rw [← r0 (fun a => be0 m q1 q2 k s o x l r e 2 a 0)]
      rfl
    · refine (bs_set_ne (nm q2 (by simp))).trans ((ov_at nd2 (q2, rRow G 3 60 (fun _ => none)) (by simp)).trans ?_)
      rw [← r0 (fun a => be0 m q1 q2 k s o x l r e 1 a 0)]
      rfl
    · exact (bs_set_ne (nm k (by simp))).trans (ov_at nd2 (k, .inr (1, [.ref s, .int 0, .int 0])) (by simp))
    · exact (bs_set_ne (nm s (by simp))).trans (ov_at nd2 (s, iRow G 5 (fun _ => 0)) (by simp))
    · exact (bs_set_ne (nm o (by simp))).trans (ov_at nd2 (o, .inr (4, [.ref x, .int 0, .ref l, .ref r, .int 0, .int 0])) (by simp))
    · exact (bs_set_ne (nm x (by simp))).trans (ov_at nd2 (x, iRow G 120 (fun _ => 0)) (by simp))
    · exact (bs_set_ne (nm l (by simp))).trans (ov_at nd2 (l, iRow G 60 (fun _ => 0)) (by simp))
    · exact (bs_set_ne (nm r (by simp))).trans (ov_at nd2 (r, iRow G 180 (fun _ => 0)) (by simp))
    · exact (bs_set_ne (nm e (by simp))).trans (ov_at nd2 (e, iRow G 3 (fun _ => 0)) (by simp))
  · rw [List.mem_cons, not_or] at hb'
    rw [bs_set_ne hb'.1]
    exact ov_o hb'.2
end X5c
