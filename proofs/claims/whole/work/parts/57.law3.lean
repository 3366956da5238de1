/-! the law's calls -/
section Law3
variable {G : GG} {y m : Nat} {A : Nat → Nat} {b L : Nat} {xs : Nat → Int32} {σ : MS} {h : Hp} {i f B : Nat}
theorem l_isFreed (hA : mOk y A) (hi : i + 6 ≤ L) (hL : L ≤ 3072) (hB : B + 60 < 1000000) (I : LI G y m A B σ h) (h16 : σ 16 0 = 0) (nx : Nx G y m A b L xs i f B) : lB G b L xs (34 * (10 - zN (σ 0 0)) + 60 * (f + 1)) (339 * (10 - zN (σ 0 0)) + 120 * (f + 1)) h 728 (lV b m y i) [] := by
  obtain ⟨hs, ψ, -, C⟩ := I
  have hI := C.inv
  obtain ⟨fs, hm⟩ := C.M
  have k : Kp σ (s_frd σ (xs (i + 1))).2 := kp_frd h16
  have k2 := k.2
  refine bs_aload_n (pc' := 729) dL_law_728 rfl rfl rfl ?_
  refine bs_aload_n (pc' := 730) dL_law_729 rfl rfl rfl ?_
  refine bs_iload_n (pc' := 731) dL_law_730 rfl rfl ?_
  refine bs_iconst (v := 1) (pc' := 732) dL_law_731 (by decide) rfl ?_
  refine bs_iadd (pc' := 733) dL_law_732 rfl ?_
  refine bl_sld (pc' := 734) dL_law_733 (i + 1) (nI_add i 1) ⟨by omega, by omega⟩ rfl ?_
  refine bs_callV (N := mX5_isFreed) (pc' := 737) dL_law_734 km_L_90 ko_X5_isFreed (p_isFreed C h16) hm rfl rfl rfl (by omega) (show (34 * (10 - zN ((s_frd σ (xs (i + 1))).2 0 0)) + 60 * f) + _ ≤ _ by omega) (show (339 * (10 - zN ((s_frd σ (xs (i + 1))).2 0 0)) + 120 * f) + _ ≤ _ by omega) rfl ?_
  rintro _ h1 ⟨rfl, C1⟩
  rw [← C1.self]
  refine bs_aload_n (pc' := 738) dL_law_737 rfl rfl rfl ?_
  refine bs_aload_n (pc' := 739) dL_law_738 rfl rfl rfl ?_
  refine bs_iload_n (pc' := 740) dL_law_739 rfl rfl ?_
  refine bs_iconst (v := 1) (pc' := 741) dL_law_740 (by decide) rfl ?_
  refine bs_iadd (pc' := 742) dL_law_741 rfl ?_
  refine bl_sld (pc' := 743) dL_law_742 (i + 1) (nI_add i 1) ⟨by omega, by omega⟩ rfl ?_
  refine bs_callV (N := mX6_isFreed) (pc' := 746) dL_law_743 km_L_93 ko_X6_isFreed (sm_isFreed hA hI) mh_y rfl rfl rfl (by omega) (Nat.le_refl _) (Nat.le_refl _) rfl ?_
  rintro _ _ ⟨rfl, rfl⟩
  refine bs_icmp_eq (tgt := 902) (pc' := 749) dL_law_746 rfl rfl (fun _ => ?_) (fun c746 => absurd rfl c746)
  exact nx _ _ ⟨_, _, mh_mh.symm, C1.swap.up (by omega)⟩ k.1
theorem l_pointerCount (hA : mOk y A) (hi : i + 6 ≤ L) (hL : L ≤ 3072) (hB : B + 60 < 1000000) (I : LI G y m A B σ h) (h16 : σ 16 0 = 0) (nx : Nx G y m A b L xs i f B) : lB G b L xs (34 * (10 - zN (σ 0 0)) + 60 * (f + 1)) (339 * (10 - zN (σ 0 0)) + 120 * (f + 1)) h 751 (lV b m y i) [] := by
  obtain ⟨hs, ψ, -, C⟩ := I
  have hI := C.inv
  obtain ⟨fs, hm⟩ := C.M
  have k : Kp σ σ := Kp.rf h16
  have k2 := k.2
  refine bs_aload_n (pc' := 752) dL_law_751 rfl rfl rfl ?_
  refine bs_callV (N := mX5_pointerCount) (pc' := 755) dL_law_752 km_L_94 ko_X5_pointerCount (p_pointerCount C) hm rfl rfl rfl (by omega) (show (34 * (10 - zN (σ 0 0)) + 60 * f) + _ ≤ _ by omega) (show (339 * (10 - zN (σ 0 0)) + 120 * f) + _ ≤ _ by omega) rfl ?_
  rintro _ h1 ⟨rfl, C1⟩
  rw [← C1.self]
  refine bs_aload_n (pc' := 756) dL_law_755 rfl rfl rfl ?_
  refine bs_callV (N := mX6_pointerCount) (pc' := 759) dL_law_756 km_L_97 ko_X6_pointerCount (sm_pointerCount) mh_y rfl rfl rfl (by omega) (Nat.le_refl _) (Nat.le_refl _) rfl ?_
  rintro _ _ ⟨rfl, rfl⟩
  refine bs_icmp_eq (tgt := 902) (pc' := 762) dL_law_759 rfl rfl (fun _ => ?_) (fun c759 => absurd rfl c759)
  exact nx _ _ ⟨_, _, mh_mh.symm, C1.swap.up (by omega)⟩ k.1
theorem l_callDepth (hA : mOk y A) (hi : i + 6 ≤ L) (hL : L ≤ 3072) (hB : B + 60 < 1000000) (I : LI G y m A B σ h) (h16 : σ 16 0 = 0) (nx : Nx G y m A b L xs i f B) : lB G b L xs (34 * (10 - zN (σ 0 0)) + 60 * (f + 1)) (339 * (10 - zN (σ 0 0)) + 120 * (f + 1)) h 764 (lV b m y i) [] := by
  obtain ⟨hs, ψ, -, C⟩ := I
  have hI := C.inv
  obtain ⟨fs, hm⟩ := C.M
  have k : Kp σ σ := Kp.rf h16
  have k2 := k.2
  refine bs_aload_n (pc' := 765) dL_law_764 rfl rfl rfl ?_
  refine bs_callV (N := mX5_callDepth) (pc' := 768) dL_law_765 km_L_98 ko_X5_callDepth (p_callDepth C) hm rfl rfl rfl (by omega) (show (34 * (10 - zN (σ 0 0)) + 60 * f) + _ ≤ _ by omega) (show (339 * (10 - zN (σ 0 0)) + 120 * f) + _ ≤ _ by omega) rfl ?_
  rintro _ h1 ⟨rfl, C1⟩
  rw [← C1.self]
  refine bs_aload_n (pc' := 769) dL_law_768 rfl rfl rfl ?_
  refine bs_callV (N := mX6_callDepth) (pc' := 772) dL_law_769 km_L_101 ko_X6_callDepth (sm_callDepth) mh_y rfl rfl rfl (by omega) (Nat.le_refl _) (Nat.le_refl _) rfl ?_
  rintro _ _ ⟨rfl, rfl⟩
  refine bs_icmp_eq (tgt := 902) (pc' := 775) dL_law_772 rfl rfl (fun _ => ?_) (fun c772 => absurd rfl c772)
  exact nx _ _ ⟨_, _, mh_mh.symm, C1.swap.up (by omega)⟩ k.1
theorem l_violationCount (hA : mOk y A) (hi : i + 6 ≤ L) (hL : L ≤ 3072) (hB : B + 60 < 1000000) (I : LI G y m A B σ h) (h16 : σ 16 0 = 0) (nx : Nx G y m A b L xs i f B) : lB G b L xs (34 * (10 - zN (σ 0 0)) + 60 * (f + 1)) (339 * (10 - zN (σ 0 0)) + 120 * (f + 1)) h 777 (lV b m y i) [] := by
  obtain ⟨hs, ψ, -, C⟩ := I
  have hI := C.inv
  obtain ⟨fs, hm⟩ := C.M
  have k : Kp σ σ := Kp.rf h16
  have k2 := k.2
  refine bs_aload_n (pc' := 778) dL_law_777 rfl rfl rfl ?_
  refine bs_callV (N := mX5_violationCount) (pc' := 781) dL_law_778 km_L_102 ko_X5_violationCount (p_violationCount C) hm rfl rfl rfl (by omega) (show (34 * (10 - zN (σ 0 0)) + 60 * f) + _ ≤ _ by omega) (show (339 * (10 - zN (σ 0 0)) + 120 * f) + _ ≤ _ by omega) rfl ?_
  rintro _ h1 ⟨rfl, C1⟩
  rw [← C1.self]
  refine bs_aload_n (pc' := 782) dL_law_781 rfl rfl rfl ?_
  refine bs_callV (N := mX6_violationCount) (pc' := 785) dL_law_782 km_L_105 ko_X6_violationCount (sm_violationCount) mh_y rfl rfl rfl (by omega) (Nat.le_refl _) (Nat.le_refl _) rfl ?_
  rintro _ _ ⟨rfl, rfl⟩
  refine bs_icmp_eq (tgt := 902) (pc' := 788) dL_law_785 rfl rfl (fun _ => ?_) (fun c785 => absurd rfl c785)
  exact nx _ _ ⟨_, _, mh_mh.symm, C1.swap.up (by omega)⟩ k.1
theorem l_violationKind (hA : mOk y A) (hi : i + 6 ≤ L) (hL : L ≤ 3072) (hB : B + 60 < 1000000) (I : LI G y m A B σ h) (h16 : σ 16 0 = 0) (nx : Nx G y m A b L xs i f B) : lB G b L xs (34 * (10 - zN (σ 0 0)) + 60 * (f + 1)) (339 * (10 - zN (σ 0 0)) + 120 * (f + 1)) h 790 (lV b m y i) [] := by
  obtain ⟨hs, ψ, -, C⟩ := I
  have hI := C.inv
  obtain ⟨fs, hm⟩ := C.M
  have k : Kp σ σ := Kp.rf h16
  have k2 := k.2
  refine bs_aload_n (pc' := 791) dL_law_790 rfl rfl rfl ?_
  refine bs_callV (N := mX5_violationKind) (pc' := 794) dL_law_791 km_L_106 ko_X5_violationKind (p_violationKind C) hm rfl rfl rfl (by omega) (show (34 * (10 - zN (σ 0 0)) + 60 * f) + _ ≤ _ by omega) (show (339 * (10 - zN (σ 0 0)) + 120 * f) + _ ≤ _ by omega) rfl ?_
  rintro _ h1 ⟨rfl, C1⟩
  rw [← C1.self]
  refine bs_aload_n (pc' := 795) dL_law_794 rfl rfl rfl ?_
  refine bs_callV (N := mX6_violationKind) (pc' := 798) dL_law_795 km_L_109 ko_X6_violationKind (sm_violationKind) mh_y rfl rfl rfl (by omega) (Nat.le_refl _) (Nat.le_refl _) rfl ?_
  rintro _ _ ⟨rfl, rfl⟩
  refine bs_icmp_eq (tgt := 902) (pc' := 801) dL_law_798 rfl rfl (fun _ => ?_) (fun c798 => absurd rfl c798)
  exact nx _ _ ⟨_, _, mh_mh.symm, C1.swap.up (by omega)⟩ k.1
theorem l_violationCell (hA : mOk y A) (hi : i + 6 ≤ L) (hL : L ≤ 3072) (hB : B + 60 < 1000000) (I : LI G y m A B σ h) (h16 : σ 16 0 = 0) (nx : Nx G y m A b L xs i f B) : lB G b L xs (34 * (10 - zN (σ 0 0)) + 60 * (f + 1)) (339 * (10 - zN (σ 0 0)) + 120 * (f + 1)) h 803 (lV b m y i) [] := by
  obtain ⟨hs, ψ, -, C⟩ := I
  have hI := C.inv
  obtain ⟨fs, hm⟩ := C.M
  have k : Kp σ σ := Kp.rf h16
  have k2 := k.2
  refine bs_aload_n (pc' := 804) dL_law_803 rfl rfl rfl ?_
  refine bs_callV (N := mX5_violationCell) (pc' := 807) dL_law_804 km_L_110 ko_X5_violationCell (p_violationCell C) hm rfl rfl rfl (by omega) (show (34 * (10 - zN (σ 0 0)) + 60 * f) + _ ≤ _ by omega) (show (339 * (10 - zN (σ 0 0)) + 120 * f) + _ ≤ _ by omega) rfl ?_
  rintro _ h1 ⟨rfl, C1⟩
  rw [← C1.self]
  refine bs_aload_n (pc' := 808) dL_law_807 rfl rfl rfl ?_
  refine bs_callV (N := mX6_violationCell) (pc' := 811) dL_law_808 km_L_113 ko_X6_violationCell (sm_violationCell) mh_y rfl rfl rfl (by omega) (Nat.le_refl _) (Nat.le_refl _) rfl ?_
  rintro _ _ ⟨rfl, rfl⟩
  refine bs_icmp_eq (tgt := 902) (pc' := 814) dL_law_811 rfl rfl (fun _ => ?_) (fun c811 => absurd rfl c811)
  exact nx _ _ ⟨_, _, mh_mh.symm, C1.swap.up (by omega)⟩ k.1
theorem l_errorCount (hA : mOk y A) (hi : i + 6 ≤ L) (hL : L ≤ 3072) (hB : B + 60 < 1000000) (I : LI G y m A B σ h) (h16 : σ 16 0 = 0) (nx : Nx G y m A b L xs i f B) : lB G b L xs (34 * (10 - zN (σ 0 0)) + 60 * (f + 1)) (339 * (10 - zN (σ 0 0)) + 120 * (f + 1)) h 816 (lV b m y i) [] := by
  obtain ⟨hs, ψ, -, C⟩ := I
  have hI := C.inv
  obtain ⟨fs, hm⟩ := C.M
  have k : Kp σ (s_erc σ (xs (i + 1))).2 := kp_erc h16
  have k2 := k.2
  refine bs_aload_n (pc' := 817) dL_law_816 rfl rfl rfl ?_
  refine bs_aload_n (pc' := 818) dL_law_817 rfl rfl rfl ?_
  refine bs_iload_n (pc' := 819) dL_law_818 rfl rfl ?_
  refine bs_iconst (v := 1) (pc' := 820) dL_law_819 (by decide) rfl ?_
  refine bs_iadd (pc' := 821) dL_law_820 rfl ?_
  refine bl_sld (pc' := 822) dL_law_821 (i + 1) (nI_add i 1) ⟨by omega, by omega⟩ rfl ?_
  refine bs_callV (N := mX5_errorCount) (pc' := 825) dL_law_822 km_L_114 ko_X5_errorCount (p_errorCount C h16) hm rfl rfl rfl (by omega) (show (34 * (10 - zN ((s_erc σ (xs (i + 1))).2 0 0)) + 60 * f) + _ ≤ _ by omega) (show (339 * (10 - zN ((s_erc σ (xs (i + 1))).2 0 0)) + 120 * f) + _ ≤ _ by omega) rfl ?_
  rintro _ h1 ⟨rfl, C1⟩
  rw [← C1.self]
  refine bs_aload_n (pc' := 826) dL_law_825 rfl rfl rfl ?_
  refine bs_aload_n (pc' := 827) dL_law_826 rfl rfl rfl ?_
  refine bs_iload_n (pc' := 828) dL_law_827 rfl rfl ?_
  refine bs_iconst (v := 1) (pc' := 829) dL_law_828 (by decide) rfl ?_
  refine bs_iadd (pc' := 830) dL_law_829 rfl ?_
  refine bl_sld (pc' := 831) dL_law_830 (i + 1) (nI_add i 1) ⟨by omega, by omega⟩ rfl ?_
  refine bs_callV (N := mX6_errorCount) (pc' := 834) dL_law_831 km_L_117 ko_X6_errorCount (sm_errorCount hA) mh_y rfl rfl rfl (by omega) (Nat.le_refl _) (Nat.le_refl _) rfl ?_
  rintro _ _ ⟨rfl, rfl⟩
  refine bs_icmp_eq (tgt := 902) (pc' := 837) dL_law_834 rfl rfl (fun _ => ?_) (fun c834 => absurd rfl c834)
  exact nx _ _ ⟨_, _, mh_mh.symm, C1.swap.up (by omega)⟩ k.1
theorem l_append (hA : mOk y A) (hi : i + 6 ≤ L) (hL : L ≤ 3072) (hB : B + 60 < 1000000) (I : LI G y m A B σ h) (h16 : σ 16 0 = 0) (nx : Nx G y m A b L xs i f B) : lB G b L xs (34 * (10 - zN (σ 0 0)) + 60 * (f + 1)) (339 * (10 - zN (σ 0 0)) + 120 * (f + 1)) h 839 (lV b m y i) [] := by
  obtain ⟨hs, ψ, -, C⟩ := I
  have hI := C.inv
  obtain ⟨fs, hm⟩ := C.M
  have k : Kp σ (s_app σ (xs (i + 1))).2 := kp_app h16
  have k2 := k.2
  refine bs_aload_n (pc' := 840) dL_law_839 rfl rfl rfl ?_
  refine bs_aload_n (pc' := 841) dL_law_840 rfl rfl rfl ?_
  refine bs_iload_n (pc' := 842) dL_law_841 rfl rfl ?_
  refine bs_iconst (v := 1) (pc' := 843) dL_law_842 (by decide) rfl ?_
  refine bs_iadd (pc' := 844) dL_law_843 rfl ?_
  refine bl_sld (pc' := 845) dL_law_844 (i + 1) (nI_add i 1) ⟨by omega, by omega⟩ rfl ?_
  refine bs_callV (N := mX5_append) (pc' := 848) dL_law_845 km_L_118 ko_X5_append (p_append C h16) hm rfl rfl rfl (by omega) (show (34 * (10 - zN ((s_app σ (xs (i + 1))).2 0 0)) + 60 * f) + _ ≤ _ by omega) (show (339 * (10 - zN ((s_app σ (xs (i + 1))).2 0 0)) + 120 * f) + _ ≤ _ by omega) rfl ?_
  rintro _ h1 ⟨rfl, C1⟩
  rw [← C1.self]
  refine bs_aload_n (pc' := 849) dL_law_848 rfl rfl rfl ?_
  refine bs_aload_n (pc' := 850) dL_law_849 rfl rfl rfl ?_
  refine bs_iload_n (pc' := 851) dL_law_850 rfl rfl ?_
  refine bs_iconst (v := 1) (pc' := 852) dL_law_851 (by decide) rfl ?_
  refine bs_iadd (pc' := 853) dL_law_852 rfl ?_
  refine bl_sld (pc' := 854) dL_law_853 (i + 1) (nI_add i 1) ⟨by omega, by omega⟩ rfl ?_
  refine bs_callV (N := mX6_append) (pc' := 857) dL_law_854 km_L_121 ko_X6_append (sm_append hA hI) mh_y rfl rfl rfl (by omega) (Nat.le_refl _) (Nat.le_refl _) rfl ?_
  rintro _ _ ⟨rfl, rfl⟩
  refine bs_icmp_eq (tgt := 902) (pc' := 860) dL_law_857 rfl rfl (fun _ => ?_) (fun c857 => absurd rfl c857)
  exact nx _ _ ⟨_, _, mh_mh.symm, C1.swap.up (by omega)⟩ k.1
theorem l_clearText (hA : mOk y A) (hi : i + 6 ≤ L) (hL : L ≤ 3072) (hB : B + 60 < 1000000) (I : LI G y m A B σ h) (h16 : σ 16 0 = 0) (nx : Nx G y m A b L xs i f B) : lB G b L xs (34 * (10 - zN (σ 0 0)) + 60 * (f + 1)) (339 * (10 - zN (σ 0 0)) + 120 * (f + 1)) h 862 (lV b m y i) [] := by
  obtain ⟨hs, ψ, -, C⟩ := I
  have hI := C.inv
  obtain ⟨fs, hm⟩ := C.M
  have k : Kp σ (s_clt σ).2 := kp_clt h16
  have k2 := k.2
  refine bs_aload_n (pc' := 863) dL_law_862 rfl rfl rfl ?_
  refine bs_callV (N := mX5_clearText) (pc' := 866) dL_law_863 km_L_122 ko_X5_clearText (p_clearText C) hm rfl rfl rfl (by omega) (show (34 * (10 - zN ((s_clt σ).2 0 0)) + 60 * f) + _ ≤ _ by omega) (show (339 * (10 - zN ((s_clt σ).2 0 0)) + 120 * f) + _ ≤ _ by omega) rfl ?_
  rintro _ h1 ⟨rfl, C1⟩
  rw [← C1.self]
  refine bs_aload_n (pc' := 867) dL_law_866 rfl rfl rfl ?_
  refine bs_callV (N := mX6_clearText) (pc' := 870) dL_law_867 km_L_125 ko_X6_clearText (sm_clearText) mh_y rfl rfl rfl (by omega) (Nat.le_refl _) (Nat.le_refl _) rfl ?_
  rintro _ _ ⟨rfl, rfl⟩
  refine bs_icmp_eq (tgt := 902) (pc' := 873) dL_law_870 rfl rfl (fun _ => ?_) (fun c870 => absurd rfl c870)
  exact nx _ _ ⟨_, _, mh_mh.symm, C1.swap.up (by omega)⟩ k.1
theorem l_runScript (hA : mOk y A) (hi : i + 6 ≤ L) (hL : L ≤ 3072) (hB : B + 60 < 1000000) (I : LI G y m A B σ h) (h16 : σ 16 0 = 0) (nx : Nx G y m A b L xs i f B) : lB G b L xs (34 * (10 - zN (σ 0 0)) + 60 * (f + 1)) (339 * (10 - zN (σ 0 0)) + 120 * (f + 1)) h 875 (lV b m y i) [] := by
  obtain ⟨hs, ψ, -, C⟩ := I
  have hI := C.inv
  obtain ⟨fs, hm⟩ := C.M
  have k : Km σ (s_run σ).2 := km_run hI h16
  have k2 := k.2.1
  have k3 := k.2.2
  refine bs_aload_n (pc' := 876) dL_law_875 rfl rfl rfl ?_
  refine bs_callV (N := mX5_runScript) (pc' := 879) dL_law_876 km_L_126 ko_X5_runScript (p_runScript C (by omega)) hm rfl rfl rfl (by omega) (show (34 * (10 - zN ((s_run σ).2 0 0)) + 60 * f) + _ ≤ _ by omega) (show (339 * (10 - zN ((s_run σ).2 0 0)) + 120 * f) + _ ≤ _ by omega) rfl ?_
  rintro _ h1 ⟨rfl, ψ1, C1⟩
  rw [← C1.self]
  refine bs_aload_n (pc' := 880) dL_law_879 rfl rfl rfl ?_
  refine bs_callV (N := mX6_runScript) (pc' := 883) dL_law_880 km_L_129 ko_X6_runScript (sm_runScript hA hI) mh_y rfl rfl rfl (by omega) (Nat.le_refl _) (Nat.le_refl _) rfl ?_
  rintro _ _ ⟨rfl, rfl⟩
  refine bs_icmp_eq (tgt := 902) (pc' := 886) dL_law_883 rfl rfl (fun _ => ?_) (fun c883 => absurd rfl c883)
  exact nx _ _ ⟨_, _, mh_mh.symm, C1.swap.up (by omega)⟩ k.1
theorem l_digest (hA : mOk y A) (hi : i + 6 ≤ L) (hL : L ≤ 3072) (hB : B + 60 < 1000000) (I : LI G y m A B σ h) (h16 : σ 16 0 = 0) (nx : Nx G y m A b L xs i f B) : lB G b L xs (34 * (10 - zN (σ 0 0)) + 60 * (f + 1)) (339 * (10 - zN (σ 0 0)) + 120 * (f + 1)) h 888 (lV b m y i) [] := by
  obtain ⟨hs, ψ, -, C⟩ := I
  have hI := C.inv
  obtain ⟨fs, hm⟩ := C.M
  have k : Kp σ σ := Kp.rf h16
  have k2 := k.2
  refine bs_aload_n (pc' := 889) dL_law_888 rfl rfl rfl ?_
  refine bs_callV (N := mX5_digest) (pc' := 892) dL_law_889 km_L_130 ko_X5_digest (p_digest C) hm rfl rfl rfl (by omega) (show (34 * (10 - zN (σ 0 0)) + 60 * f) + _ ≤ _ by omega) (show (339 * (10 - zN (σ 0 0)) + 120 * f) + _ ≤ _ by omega) rfl ?_
  rintro _ h1 ⟨rfl, C1⟩
  rw [← C1.self]
  refine bs_aload_n (pc' := 893) dL_law_892 rfl rfl rfl ?_
  refine bs_callV (N := mX6_digest) (pc' := 896) dL_law_893 km_L_134 ko_X6_digest (sm_digest hA hI) mh_y rfl rfl rfl (by omega) (Nat.le_refl _) (Nat.le_refl _) rfl ?_
  rintro _ _ ⟨rfl, rfl⟩
  refine bs_lcmp (pc' := 897) dL_law_896 rfl ?_
  refine bs_if_eq (tgt := 902) (pc' := 900) dL_law_897 rfl rfl (fun _ => ?_) (fun c897 => absurd (lg_cmp_self _) c897)
  exact nx _ _ ⟨_, _, mh_mh.symm, C1.swap.up (by omega)⟩ k.1
end Law3
