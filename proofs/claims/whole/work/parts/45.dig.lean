section Dig
variable {G : GG} {h0 h : Hp} {B m : Nat} {σ ψ : MS}
theorem lvO_C {j : Nat} : lvO σ j = if σ 2 (zN (σ 9 j)) = 0 then lvC σ (zN (σ 9 j)) (nI j) (zN (σ 1 (zN (σ 9 j)))) 0 else 0 := by
  have q : ∀ f i, lvf σ j f i = lvC σ (zN (σ 9 j)) (nI j) f i := by
    intro f
    induction f with
    | zero => intro i; rfl
    | succ f ih => intro i; unfold lvf lvC; rw [ih]; rfl
  unfold lvO
  rw [q]
theorem ra_allocationOf {β : AB} {κ : MS} {j : Nat} (R : Rep G h0 β (lk σ κ) h) (P : PI B σ κ) (hj : j < zN (σ 8 0)) : bs_Sp G mX5_allocationOf 1 0 0 [.ref (β 0 0 0), .int (nI j)] h (cQ h (nI (zN (σ 9 j)))) := by
  have ha := (P.inv.ow hj).2
  refine bs_Sp.of (by decide) rfl ?_
  refine bs_aload_n (pc' := 1) dX5_allocationOf_0 rfl rfl rfl ?_
  refine bs_iload_n (pc' := 2) dX5_allocationOf_1 rfl rfl ?_
  refine bs_callV (N := mX5_pointerAt) (pc' := 5) dX5_allocationOf_2 km_X5_75 ko_X5_pointerAt (r_pointerAt R P hj) R.M rfl rfl rfl (by omega) (Nat.le_refl _) (Nat.le_refl _) rfl ?_
  rintro _ _ ⟨rfl, rfl⟩
  refine bs_astore_n (pc' := 6) (lv' := [(0, _), (1, _), (2, _)]) dX5_allocationOf_5 rfl rfl rfl rfl ?_
  refine bs_aload_n (pc' := 7) dX5_allocationOf_6 rfl rfl rfl ?_
  refine bs_ifnonnull (tgt := 19) dX5_allocationOf_7 rfl ?_
  refine bs_aload_n (pc' := 20) dX5_allocationOf_19 rfl rfl rfl ?_
  refine bs_getf (pc' := 23) kf_X5_83 dX5_allocationOf_20 (R.P hj) rfl rfl ?_
  refine bs_getf (pc' := 26) kf_X5_133 dX5_allocationOf_23 (R.O ha) rfl rfl ?_
  exact bs_iret dX5_allocationOf_26 rfl ⟨rfl, rfl⟩
theorem ra_parent {β : AB} {κ : MS} {j : Nat} (R : Rep G h0 β (lk σ κ) h) (P : PI B σ κ) (hj : j < zN (σ 8 0)) : bs_Sp G mX5_parent 1 0 0 [.ref (β 0 0 0), .int (nI j)] h (cQ h (σ 10 j)) := by
  have ha := (P.inv.ow hj).2
  refine bs_Sp.of (by decide) rfl ?_
  refine bs_aload_n (pc' := 1) dX5_parent_0 rfl rfl rfl ?_
  refine bs_iload_n (pc' := 2) dX5_parent_1 rfl rfl ?_
  refine bs_callV (N := mX5_pointerAt) (pc' := 5) dX5_parent_2 km_X5_75 ko_X5_pointerAt (r_pointerAt R P hj) R.M rfl rfl rfl (by omega) (Nat.le_refl _) (Nat.le_refl _) rfl ?_
  rintro _ _ ⟨rfl, rfl⟩
  refine bs_astore_n (pc' := 6) (lv' := [(0, _), (1, _), (2, _)]) dX5_parent_5 rfl rfl rfl rfl ?_
  refine bs_aload_n (pc' := 7) dX5_parent_6 rfl rfl rfl ?_
  refine bs_ifnonnull (tgt := 19) dX5_parent_7 rfl ?_
  refine bs_aload_n (pc' := 20) dX5_parent_19 rfl rfl rfl ?_
  refine bs_getf (pc' := 23) kf_X5_136 dX5_parent_20 (R.P hj) rfl rfl ?_
  exact bs_iret dX5_parent_23 rfl ⟨rfl, rfl⟩
theorem ra_liveCells {β : AB} {κ : MS} {j : Nat} (R : Rep G h0 β (lk σ κ) h) (P : PI B σ κ) (hj : j < zN (σ 8 0)) : bs_Sp G mX5_liveCells 2 0 0 [.ref (β 0 0 0), .int (nI j)] h (cQ h (nI (lvO σ j))) := by
  have ha := (P.inv.ow hj).2
  rw [lvO_C]
  refine bs_Sp.of (by decide) rfl ?_
  refine bs_aload_n (pc' := 1) dX5_liveCells_0 rfl rfl rfl ?_
  refine bs_iload_n (pc' := 2) dX5_liveCells_1 rfl rfl ?_
  refine bs_callV (N := mX5_pointerAt) (pc' := 5) dX5_liveCells_2 km_X5_75 ko_X5_pointerAt (r_pointerAt R P hj) R.M rfl rfl rfl (by omega) (Nat.le_refl _) (Nat.le_refl _) rfl ?_
  rintro _ _ ⟨rfl, rfl⟩
  refine bs_astore_n (pc' := 6) (lv' := [(0, _), (1, _), (2, _)]) dX5_liveCells_5 rfl rfl rfl rfl ?_
  refine bs_aload_n (pc' := 7) dX5_liveCells_6 rfl rfl rfl ?_
  refine bs_ifnonnull (tgt := 19) dX5_liveCells_7 rfl ?_
  refine bs_aload_n (pc' := 20) dX5_liveCells_19 rfl rfl rfl ?_
  refine bs_getf (pc' := 23) kf_X5_83 dX5_liveCells_20 (R.P hj) rfl rfl ?_
  refine bs_iload_n (pc' := 24) dX5_liveCells_23 rfl rfl ?_
  refine bs_callV (N := mX0_cellsAliveFor) (pc' := 27) dX5_liveCells_24 km_X5_139 ko_X0_cellsAliveFor (ra_cellsAlive R P ha) (R.O ha) rfl rfl rfl (by omega) (Nat.le_refl _) (Nat.le_refl _) rfl ?_
  rintro _ _ ⟨rfl, rfl⟩
  exact bs_iret dX5_liveCells_27 rfl ⟨rfl, rfl⟩
theorem p_digest (C : CR G h0 m ψ B σ h) : bs_Sp G mX5_digest 3 0 0 [.ref m] h (fun r h' => r = some (.long (s_dig σ)) ∧ CR G h0 m ψ B σ h') := by
  obtain ⟨β, κ, rfl, P, R, S⟩ := C
  have h10 := P.inv.nA.2
  have h60 := P.inv.nP.2
  have l3 : ∀ f j w, j + f = zN (σ 8 0) → bs_B G (fun _ => True) mX5_digest 3 0 0 h 150 [(0, .ref (β 0 0 0)), (1, .long w), (3, .int (nI j))] [] (fun r h' => r = some (.long (d_pts σ f j w)) ∧ CR G h0 (β 0 0 0) ψ B σ h') := by
    intro f
    induction f with
    | zero =>
      intro j w hj
      refine bs_iload_n (pc' := 151) dX5_digest_150 rfl rfl ?_
      refine bs_aload_n (pc' := 152) dX5_digest_151 rfl rfl rfl ?_
      refine bs_getf (pc' := 155) kf_X5_146 dX5_digest_152 R.M rfl rfl ?_
      refine bs_icmp_ge (tgt := 197) (pc' := 158) dX5_digest_155 rfl rfl (fun _ => ?_) (fun c155 => absurd (by rw [P.inv.nP.1]; exact nI_le (by omega) (by omega)) c155)
      refine bs_lload_n (pc' := 198) dX5_digest_197 rfl rfl ?_
      exact bs_lret dX5_digest_198 rfl ⟨rfl, β, κ, rfl, P, R, S⟩
    | succ f ih =>
      intro j w hj0
      have hj : j < zN (σ 8 0) := by omega
      refine bs_iload_n (pc' := 151) dX5_digest_150 rfl rfl ?_
      refine bs_aload_n (pc' := 152) dX5_digest_151 rfl rfl rfl ?_
      refine bs_getf (pc' := 155) kf_X5_146 dX5_digest_152 R.M rfl rfl ?_
      refine bs_icmp_ge (tgt := 197) (pc' := 158) dX5_digest_155 rfl rfl (fun c155 => absurd c155 (by rw [P.inv.nP.1]; exact nI_ge (by omega) (by omega))) (fun _ => ?_)
      refine bs_lload_n (pc' := 159) dX5_digest_158 rfl rfl ?_
      refine bs_aload_n (pc' := 160) dX5_digest_159 rfl rfl rfl ?_
      refine bs_iload_n (pc' := 161) dX5_digest_160 rfl rfl ?_
      refine bs_callV (N := mX5_allocationOf) (pc' := 164) dX5_digest_161 km_X5_186 ko_X5_allocationOf (ra_allocationOf R P hj) R.M rfl rfl rfl (by omega) (Nat.le_refl _) (Nat.le_refl _) rfl ?_
      rintro _ _ ⟨rfl, rfl⟩
      refine bs_i2l (pc' := 165) dX5_digest_164 rfl ?_
      refine bs_callS (N := mX5_mixed) (pc' := 168) dX5_digest_165 km_X5_175 ko_X5_mixed sc_mixed rfl rfl rfl (by omega) (Nat.le_refl _) (Nat.le_refl _) rfl ?_
      rintro _ _ ⟨rfl, rfl⟩
      refine bs_lstore_n (pc' := 169) (lv' := [(0, _), (1, _), (3, _)]) dX5_digest_168 rfl rfl rfl ?_
      refine bs_lload_n (pc' := 170) dX5_digest_169 rfl rfl ?_
      refine bs_aload_n (pc' := 171) dX5_digest_170 rfl rfl rfl ?_
      refine bs_iload_n (pc' := 172) dX5_digest_171 rfl rfl ?_
      refine bs_callV (N := mX5_parent) (pc' := 175) dX5_digest_172 km_X5_189 ko_X5_parent (ra_parent R P hj) R.M rfl rfl rfl (by omega) (Nat.le_refl _) (Nat.le_refl _) rfl ?_
      rintro _ _ ⟨rfl, rfl⟩
      refine bs_i2l (pc' := 176) dX5_digest_175 rfl ?_
      refine bs_callS (N := mX5_mixed) (pc' := 179) dX5_digest_176 km_X5_175 ko_X5_mixed sc_mixed rfl rfl rfl (by omega) (Nat.le_refl _) (Nat.le_refl _) rfl ?_
      rintro _ _ ⟨rfl, rfl⟩
      refine bs_lstore_n (pc' := 180) (lv' := [(0, _), (1, _), (3, _)]) dX5_digest_179 rfl rfl rfl ?_
      refine bs_lload_n (pc' := 181) dX5_digest_180 rfl rfl ?_
      refine bs_aload_n (pc' := 182) dX5_digest_181 rfl rfl rfl ?_
      refine bs_iload_n (pc' := 183) dX5_digest_182 rfl rfl ?_
      refine bs_callV (N := mX5_liveCells) (pc' := 186) dX5_digest_183 km_X5_192 ko_X5_liveCells (ra_liveCells R P hj) R.M rfl rfl rfl (by omega) (Nat.le_refl _) (Nat.le_refl _) rfl ?_
      rintro _ _ ⟨rfl, rfl⟩
      refine bs_i2l (pc' := 187) dX5_digest_186 rfl ?_
      refine bs_callS (N := mX5_mixed) (pc' := 190) dX5_digest_187 km_X5_175 ko_X5_mixed sc_mixed rfl rfl rfl (by omega) (Nat.le_refl _) (Nat.le_refl _) rfl ?_
      rintro _ _ ⟨rfl, rfl⟩
      refine bs_lstore_n (pc' := 191) (lv' := [(0, _), (1, _), (3, _)]) dX5_digest_190 rfl rfl rfl ?_
      refine bs_iinc (pc' := 194) (lv' := [(0, _), (1, _), (3, _)]) dX5_digest_191 rfl (nI_i1 j) rfl rfl rfl ?_
      refine bs_goto (tgt := 150) dX5_digest_194 rfl ?_
      have := ih (j + 1) (mx (mx (mx w (σ 9 j).toInt64) (σ 10 j).toInt64) (nI (lvO σ j)).toInt64) (by omega)
      rw [show (σ 9 j).toInt64 = (nI (zN (σ 9 j))).toInt64 by rw [← P.inv.owe hj]] at this
      rw [d_pts, show (σ 9 j).toInt64 = (nI (zN (σ 9 j))).toInt64 by rw [← P.inv.owe hj]]
      exact this
  have l2 : ∀ f a w, a + f = zN (σ 0 0) → bs_B G (fun _ => True) mX5_digest 3 0 0 h 97 [(0, .ref (β 0 0 0)), (1, .long w), (3, .int (nI a))] [] (fun r h' => r = some (.long (d_pts σ (zN (σ 8 0)) 0 (mx (d_als σ f a w) (σ 8 0).toInt64))) ∧ CR G h0 (β 0 0 0) ψ B σ h') := by
    intro f
    induction f with
    | zero =>
      intro a w ha
      refine bs_iload_n (pc' := 98) dX5_digest_97 rfl rfl ?_
      refine bs_aload_n (pc' := 99) dX5_digest_98 rfl rfl rfl ?_
      refine bs_getf (pc' := 102) kf_X5_179 dX5_digest_99 R.M rfl rfl ?_
      refine bs_icmp_ge (tgt := 138) (pc' := 105) dX5_digest_102 rfl rfl (fun _ => ?_) (fun c102 => absurd (by rw [P.inv.nA.1]; exact nI_le (by omega) (by omega)) c102)
      refine bs_lload_n (pc' := 139) dX5_digest_138 rfl rfl ?_
      refine bs_aload_n (pc' := 140) dX5_digest_139 rfl rfl rfl ?_
      refine bs_getf (pc' := 143) kf_X5_146 dX5_digest_140 R.M rfl rfl ?_
      refine bs_i2l (pc' := 144) dX5_digest_143 rfl ?_
      refine bs_callS (N := mX5_mixed) (pc' := 147) dX5_digest_144 km_X5_175 ko_X5_mixed sc_mixed rfl rfl rfl (by omega) (Nat.le_refl _) (Nat.le_refl _) rfl ?_
      rintro _ _ ⟨rfl, rfl⟩
      refine bs_lstore_n (pc' := 148) (lv' := [(0, _), (1, _), (3, _)]) dX5_digest_147 rfl rfl rfl ?_
      refine bs_iconst (v := 0) (pc' := 149) dX5_digest_148 (by decide) rfl ?_
      refine bs_istore_n (pc' := 150) (lv' := [(0, _), (1, _), (3, _)]) dX5_digest_149 rfl rfl rfl ?_
      exact l3 _ 0 _ (Nat.zero_add _)
    | succ f ih =>
      intro a w ha0
      have ha : a < zN (σ 0 0) := by omega
      refine bs_iload_n (pc' := 98) dX5_digest_97 rfl rfl ?_
      refine bs_aload_n (pc' := 99) dX5_digest_98 rfl rfl rfl ?_
      refine bs_getf (pc' := 102) kf_X5_179 dX5_digest_99 R.M rfl rfl ?_
      refine bs_icmp_ge (tgt := 138) (pc' := 105) dX5_digest_102 rfl rfl (fun c102 => absurd c102 (by rw [P.inv.nA.1]; exact nI_ge (by omega) (by omega))) (fun _ => ?_)
      refine bs_aload_n (pc' := 106) dX5_digest_105 rfl rfl rfl ?_
      refine bs_iload_n (pc' := 107) dX5_digest_106 rfl rfl ?_
      refine bs_callV (N := mX5_allocationAt) (pc' := 110) dX5_digest_107 km_X5_142 ko_X5_allocationAt (r_allocationAt R P ha) R.M rfl rfl rfl (by omega) (Nat.le_refl _) (Nat.le_refl _) rfl ?_
      rintro _ _ ⟨rfl, rfl⟩
      refine bs_astore (pc' := 112) (lv' := [(0, _), (1, _), (3, _), (4, _)]) dX5_digest_110 rfl rfl rfl rfl ?_
      refine bs_aload (pc' := 114) dX5_digest_112 rfl rfl rfl ?_
      refine bs_ifnonnull (tgt := 121) dX5_digest_114 rfl ?_
      refine bs_aload (pc' := 123) dX5_digest_121 rfl rfl rfl ?_
      refine bs_lload_n (pc' := 124) dX5_digest_123 rfl rfl ?_
      refine bs_aload_n (pc' := 125) dX5_digest_124 rfl rfl rfl ?_
      refine bs_getf (pc' := 128) kf_X5_24 dX5_digest_125 R.M rfl rfl ?_
      refine bs_callV (N := mX0_mixedInto) (pc' := 131) dX5_digest_128 km_X5_182 ko_X0_mixedInto (ra_mixedInto R P ha) (R.O ha) rfl rfl rfl (by omega) (Nat.le_refl _) (Nat.le_refl _) rfl ?_
      rintro _ _ ⟨rfl, rfl⟩
      refine bs_lstore_n (pc' := 132) (lv' := [(0, _), (1, _), (3, _), (4, _)]) dX5_digest_131 rfl rfl rfl ?_
      refine bs_iinc (pc' := 135) (lv' := [(0, _), (1, _), (3, _), (4, _)]) dX5_digest_132 rfl (nI_i1 a) rfl rfl rfl ?_
      refine bs_goto (tgt := 97) dX5_digest_135 rfl ?_
      refine bs_sub (lv' := [(0, _), (1, _), (3, _)]) [0, 1, 2] rfl ?_
      exact ih (a + 1) _ (by omega)
  have l1 : ∀ f k w, k + f = 3 → bs_B G (fun _ => True) mX5_digest 3 0 0 h 6 [(0, .ref (β 0 0 0)), (1, .long w), (3, .int (nI k))] [] (fun r h' => r = some (.long (d_pts σ (zN (σ 8 0)) 0 (mx (d_als σ (zN (σ 0 0)) 0 (mx (mx (mx (mx (mx (mx (d_err σ f k w) (σ 18 0).toInt64) (σ 12 0).toInt64) (σ 13 0).toInt64) (σ 14 0).toInt64) (σ 11 0).toInt64) (σ 0 0).toInt64)) (σ 8 0).toInt64))) ∧ CR G h0 (β 0 0 0) ψ B σ h') := by
    intro f
    induction f with
    | zero =>
      intro k w hk
      obtain rfl : k = 3 := by omega
      refine bs_iload_n (pc' := 7) dX5_digest_6 rfl rfl ?_
      refine bs_iconst (v := 3) (pc' := 8) dX5_digest_7 (by decide) rfl ?_
      refine bs_icmp_ge (tgt := 29) (pc' := 11) dX5_digest_8 rfl rfl (fun _ => ?_) (fun c8 => absurd (by decide) c8)
      refine bs_lload_n (pc' := 30) dX5_digest_29 rfl rfl ?_
      refine bs_aload_n (pc' := 31) dX5_digest_30 rfl rfl rfl ?_
      refine bs_getf (pc' := 34) kf_X5_31 dX5_digest_31 R.M rfl rfl ?_
      refine bs_getf (pc' := 37) kf_X5_158 dX5_digest_34 R.S1 rfl rfl ?_
      refine bs_i2l (pc' := 38) dX5_digest_37 rfl ?_
      refine bs_callS (N := mX5_mixed) (pc' := 41) dX5_digest_38 km_X5_175 ko_X5_mixed sc_mixed rfl rfl rfl (by omega) (Nat.le_refl _) (Nat.le_refl _) rfl ?_
      rintro _ _ ⟨rfl, rfl⟩
      refine bs_lstore_n (pc' := 42) (lv' := [(0, _), (1, _), (3, _)]) dX5_digest_41 rfl rfl rfl ?_
      refine bs_lload_n (pc' := 43) dX5_digest_42 rfl rfl ?_
      refine bs_aload_n (pc' := 44) dX5_digest_43 rfl rfl rfl ?_
      refine bs_getf (pc' := 47) kf_X5_152 dX5_digest_44 R.M rfl rfl ?_
      refine bs_i2l (pc' := 48) dX5_digest_47 rfl ?_
      refine bs_callS (N := mX5_mixed) (pc' := 51) dX5_digest_48 km_X5_175 ko_X5_mixed sc_mixed rfl rfl rfl (by omega) (Nat.le_refl _) (Nat.le_refl _) rfl ?_
      rintro _ _ ⟨rfl, rfl⟩
      refine bs_lstore_n (pc' := 52) (lv' := [(0, _), (1, _), (3, _)]) dX5_digest_51 rfl rfl rfl ?_
      refine bs_lload_n (pc' := 53) dX5_digest_52 rfl rfl ?_
      refine bs_aload_n (pc' := 54) dX5_digest_53 rfl rfl rfl ?_
      refine bs_getf (pc' := 57) kf_X5_39 dX5_digest_54 R.M rfl rfl ?_
      refine bs_i2l (pc' := 58) dX5_digest_57 rfl ?_
      refine bs_callS (N := mX5_mixed) (pc' := 61) dX5_digest_58 km_X5_175 ko_X5_mixed sc_mixed rfl rfl rfl (by omega) (Nat.le_refl _) (Nat.le_refl _) rfl ?_
      rintro _ _ ⟨rfl, rfl⟩
      refine bs_lstore_n (pc' := 62) (lv' := [(0, _), (1, _), (3, _)]) dX5_digest_61 rfl rfl rfl ?_
      refine bs_lload_n (pc' := 63) dX5_digest_62 rfl rfl ?_
      refine bs_aload_n (pc' := 64) dX5_digest_63 rfl rfl rfl ?_
      refine bs_getf (pc' := 67) kf_X5_43 dX5_digest_64 R.M rfl rfl ?_
      refine bs_i2l (pc' := 68) dX5_digest_67 rfl ?_
      refine bs_callS (N := mX5_mixed) (pc' := 71) dX5_digest_68 km_X5_175 ko_X5_mixed sc_mixed rfl rfl rfl (by omega) (Nat.le_refl _) (Nat.le_refl _) rfl ?_
      rintro _ _ ⟨rfl, rfl⟩
      refine bs_lstore_n (pc' := 72) (lv' := [(0, _), (1, _), (3, _)]) dX5_digest_71 rfl rfl rfl ?_
      refine bs_lload_n (pc' := 73) dX5_digest_72 rfl rfl ?_
      refine bs_aload_n (pc' := 74) dX5_digest_73 rfl rfl rfl ?_
      refine bs_getf (pc' := 77) kf_X5_24 dX5_digest_74 R.M rfl rfl ?_
      refine bs_getf (pc' := 80) kf_X5_149 dX5_digest_77 R.C1 rfl rfl ?_
      refine bs_i2l (pc' := 81) dX5_digest_80 rfl ?_
      refine bs_callS (N := mX5_mixed) (pc' := 84) dX5_digest_81 km_X5_175 ko_X5_mixed sc_mixed rfl rfl rfl (by omega) (Nat.le_refl _) (Nat.le_refl _) rfl ?_
      rintro _ _ ⟨rfl, rfl⟩
      refine bs_lstore_n (pc' := 85) (lv' := [(0, _), (1, _), (3, _)]) dX5_digest_84 rfl rfl rfl ?_
      refine bs_lload_n (pc' := 86) dX5_digest_85 rfl rfl ?_
      refine bs_aload_n (pc' := 87) dX5_digest_86 rfl rfl rfl ?_
      refine bs_getf (pc' := 90) kf_X5_179 dX5_digest_87 R.M rfl rfl ?_
      refine bs_i2l (pc' := 91) dX5_digest_90 rfl ?_
      refine bs_callS (N := mX5_mixed) (pc' := 94) dX5_digest_91 km_X5_175 ko_X5_mixed sc_mixed rfl rfl rfl (by omega) (Nat.le_refl _) (Nat.le_refl _) rfl ?_
      rintro _ _ ⟨rfl, rfl⟩
      refine bs_lstore_n (pc' := 95) (lv' := [(0, _), (1, _), (3, _)]) dX5_digest_94 rfl rfl rfl ?_
      refine bs_iconst (v := 0) (pc' := 96) dX5_digest_95 (by decide) rfl ?_
      refine bs_istore_n (pc' := 97) (lv' := [(0, _), (1, _), (3, _)]) dX5_digest_96 rfl rfl rfl ?_
      exact l2 _ 0 _ (Nat.zero_add _)
    | succ f ih =>
      intro k w hk
      refine bs_iload_n (pc' := 7) dX5_digest_6 rfl rfl ?_
      refine bs_iconst (v := 3) (pc' := 8) dX5_digest_7 (by decide) rfl ?_
      refine bs_icmp_ge (tgt := 29) (pc' := 11) dX5_digest_8 rfl rfl (fun c8 => absurd c8 (by rw [show (3 : Int32) = nI 3 from rfl]; exact nI_ge (by omega) (by omega))) (fun _ => ?_)
      refine bs_lload_n (pc' := 12) dX5_digest_11 rfl rfl ?_
      refine bs_aload_n (pc' := 13) dX5_digest_12 rfl rfl rfl ?_
      refine bs_getf (pc' := 16) kf_X5_35 dX5_digest_13 R.M rfl rfl ?_
      refine bs_iload_n (pc' := 17) dX5_digest_16 rfl rfl ?_
      refine bs_ild (pc' := 18) dX5_digest_17 R.aE k rfl ⟨by omega, by decide⟩ rfl ?_
      refine bs_i2l (pc' := 19) dX5_digest_18 rfl ?_
      refine bs_callS (N := mX5_mixed) (pc' := 22) dX5_digest_19 km_X5_175 ko_X5_mixed sc_mixed rfl rfl rfl (by omega) (Nat.le_refl _) (Nat.le_refl _) rfl ?_
      rintro _ _ ⟨rfl, rfl⟩
      refine bs_lstore_n (pc' := 23) (lv' := [(0, _), (1, _), (3, _)]) dX5_digest_22 rfl rfl rfl ?_
      refine bs_iinc (pc' := 26) (lv' := [(0, _), (1, _), (3, _)]) dX5_digest_23 rfl (nI_i1 k) rfl rfl rfl ?_
      refine bs_goto (tgt := 6) dX5_digest_26 rfl ?_
      exact ih (k + 1) _ (by omega)
  refine bs_Sp.of (by decide) rfl ?_
  refine bs_ldc2 (pc' := 3) kj_X5_173 dX5_digest_0 rfl ?_
  refine bs_lstore_n (pc' := 4) (lv' := [(0, _), (1, _)]) dX5_digest_3 rfl rfl rfl ?_
  refine bs_iconst (v := 0) (pc' := 5) dX5_digest_4 (by decide) rfl ?_
  refine bs_istore_n (pc' := 6) (lv' := [(0, _), (1, _), (3, _)]) dX5_digest_5 rfl rfl rfl ?_
  exact l1 3 0 12011 rfl
end Dig
