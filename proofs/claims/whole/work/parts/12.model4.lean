section Model4
variable {G : GG} {h0 : Hp} {y : Nat} {A : Nat → Nat} {σ : MS} {hs : Int64}
theorem sm_reborrow {p kd fr ct pr : Int32} (hA : mOk y A) (hI : mInv σ) : mSp G h0 y A σ hs mX6_reborrow 3 [.int p, .int kd, .int fr, .int ct, .int pr] (mQ2 G h0 y A hs (s_reb σ p kd fr ct pr)) := by
  have hnP := hI.nP
  refine bs_Sp.of (by decide) rfl ?_
  have key : ∀ j i0 n, p = nI j → fr = nI i0 → ct = nI n → isPc σ j i0 → i0 + n ≤ zN (σ 1 (zN (σ 9 j))) → isC σ p fr = true → (0 ≤ kd ∧ kd ≤ 2) → (0 ≤ pr ∧ pr ≤ 1) → (1 ≤ ct ∧ ct ≤ σ 1 (zN (σ 9 (zN p))) - fr) → ¬ (pr = 1 ∧ σ 11 0 = 0) → mB G h0 y A σ hs mX6_reborrow 3 84 [(0, .ref y), (1, .int p), (2, .int kd), (3, .int fr), (4, .int ct), (5, .int pr)] [] (mQ2 G h0 y A hs (s_reb σ p kd fr ct pr)) := by
    intro j i0 n ep ef ec hp hin hC hk hr hct hrej
    have h60 := hI.p60 hp.1
    have hcl := (hI.cl (hI.ow hp.1).2).1.2
    have hz1 : zN p = j := by rw [ep]; exact zN_nI (by omega)
    have hz2 : zN fr = i0 := by rw [ef]; exact zN_nI (by omega)
    have hz3 : zN ct = n := by rw [ec]; exact zN_nI (by omega)
    have hpc : ∀ i, i < i0 + n → isPc σ j i := fun i hi => ⟨hp.1, by omega⟩
    have hc80 : ∀ i, i < i0 + n → cO σ j i < 80 := fun i hi => (hI.cell (hpc i hi)).2
    have es : s_reb σ p kd fr ct pr = match fsV (rbK σ j kd) n i0 with
        | some i => (-5, vio σ (rbK σ j kd i) (nI i))
        | none => if σ 8 0 < 60 ∧ fit σ j kd n i0 = true then (σ 8 0, nwP (pts σ j kd (if pr = 1 then σ 11 0 else 0) n i0) (σ 9 j) p) else (-4, err σ 2) := by
      rw [s_reb, if_pos ⟨hC, hk, hr, hct⟩, if_neg hrej, hz1, hz2, hz3]
      rfl
    have esum : fr + ct = nI (i0 + n) := by rw [ef, ec, nI_add]
    -- the third loop: the items come
    have loop3 : fsV (rbK σ j kd) n i0 = none → σ 8 0 < 60 → fit σ j kd n i0 = true → ∀ f i (τ : MS) (w : Int32), i + f = i0 + n → i0 ≤ i → mInv τ → (∀ k, ¬ (k = 4 ∨ k = 5 ∨ k = 6 ∨ k = 7) → τ k = σ k) → (∀ i', i ≤ i' → i' < i0 + n → eqC σ τ (cO σ j i')) → pts σ j kd (if pr = 1 then σ 11 0 else 0) n i0 = pts τ j kd (if pr = 1 then σ 11 0 else 0) f i → mB G h0 y A τ hs mX6_reborrow 3 200 [(0, .ref y), (1, .int p), (2, .int kd), (3, .int fr), (4, .int ct), (5, .int pr), (6, .int w), (7, .int (nI i))] [] (mQ2 G h0 y A hs (s_reb σ p kd fr ct pr)) := by
      intro hv hlt hfit f
      have e : s_reb σ p kd fr ct pr = (σ 8 0, nwP (pts σ j kd (if pr = 1 then σ 11 0 else 0) n i0) (σ 9 j) p) := by
        rw [es, hv]
        exact if_pos ⟨hlt, hfit⟩
      have hlt' : zN (σ 8 0) < 60 := by
        rw [hnP.1, show (60 : Int32) = nI 60 from rfl, nI_ltI (by have := hnP.2; omega) (by decide)] at hlt
        exact hlt
      induction f with
      | zero =>
        intro i τ w hi hii hIt hk τe hpts
        have e8 := hk 8 (by decide)
        have e9 := hk 9 (by decide)
        refine bs_iload (pc' := 202) dX6_reborrow_200 rfl rfl ?_
        refine bs_iload_n (pc' := 203) dX6_reborrow_202 rfl rfl ?_
        refine bs_iload (pc' := 205) dX6_reborrow_203 rfl rfl ?_
        refine bs_iadd (pc' := 206) dX6_reborrow_205 rfl ?_
        refine bs_icmp_ge (tgt := 237) (pc' := 209) dX6_reborrow_206 rfl rfl (fun _ => ?_) (fun c206 => absurd (by rw [esum]; exact nI_le (by omega) (by omega)) c206)
        refine bs_aload_n (pc' := 238) dX6_reborrow_237 rfl rfl rfl ?_
        refine bs_aload_n (pc' := 239) dX6_reborrow_238 rfl rfl rfl ?_
        refine bs_getf (pc' := 242) kf_X6_32 dX6_reborrow_239 mh_y rfl rfl ?_
        refine bs_iload_n (pc' := 243) dX6_reborrow_242 rfl rfl ?_
        refine bm_ald (pc' := 244) dX6_reborrow_243 hA rfl rfl j ep h60 rfl ?_
        refine bs_iload_n (pc' := 245) dX6_reborrow_244 rfl rfl ?_
        refine bs_callV (N := mX6_newPointer) (pc' := 248) dX6_reborrow_245 km_X6_100 ko_X6_newPointer (sm_newPointer hA (by rw [e8]; exact hnP.1) (by rw [e8]; exact hlt')) mh_y rfl rfl rfl (by omega) (Nat.le_refl _) (Nat.le_refl _) rfl ?_
        rintro _ _ ⟨rfl, rfl⟩
        exact bs_iret dX6_reborrow_248 rfl ⟨by rw [e, e8], by rw [e, hpts, e9]; rfl⟩
      | succ f ih =>
        intro i τ w hi hii hIt hk τe hpts
        have e8 := hk 8 (by decide)
        have e9 := hk 9 (by decide)
        have e1 := hk 1 (by decide)
        have e11 := hk 11 (by decide)
        have hi' : i < i0 + n := by omega
        have hn12 := (hI.sz (hc80 i hi')).2
        have hpt : isPc τ j i := isPc_of (hpc i hi') e8 e9 e1
        have hrb : rbK σ j kd i = 0 := fsV_none hv i hii (by omega)
        have hg : ¬ kd = 1 → ∃ k, gr τ (cO τ j i) (nI j) true = some k := fun h => by
          rw [cO_of e9, gr_cong (τe i (Nat.le_refl _) hi') hn12]
          exact pt_gr hrb h
        have hsz : szB τ j kd i ≤ 12 := by
          rw [szB_cong e9 hn12 (τe i (Nat.le_refl _) hi')]
          exact fit_all hfit i hii (by omega)
        have j228 : ∀ z, z = (if pr = 1 then σ 11 0 else 0) → mB G h0 y A τ hs mX6_reborrow 3 228 [(0, .ref y), (1, .int p), (2, .int kd), (3, .int fr), (4, .int ct), (5, .int pr), (6, .int w), (7, .int (nI i))] [.int z, .int (nI i), .int kd, .int p, .ref y] (mQ2 G h0 y A hs (s_reb σ p kd fr ct pr)) := by
          intro z hz
          obtain ⟨o1, o2, o3⟩ := pt_ok (g := z) hIt hpt hg hsz
          rw [ep]
          refine bs_callV (N := mX6_put) (pc' := 231) dX6_reborrow_228 km_X6_137 ko_X6_put (sm_put hA hIt hpt hg hsz) mh_y rfl rfl rfl (by omega) (Nat.le_refl _) (Nat.le_refl _) rfl ?_
          rintro _ _ ⟨rfl, rfl⟩
          rw [← ep]
          refine bs_iinc (pc' := 234) (lv' := [(0, _), (1, _), (2, _), (3, _), (4, _), (5, _), (6, _), (7, _)]) dX6_reborrow_231 rfl (nI_i1 i) rfl rfl rfl ?_
          refine bs_goto (tgt := 200) dX6_reborrow_234 rfl ?_
          exact ih (i + 1) (pt τ j kd i z) w (by omega) (by omega) o1 (fun k h => (o2 k h).trans (hk k h)) (fun i' h1 h2 => eqC.trans (τe i' (by omega) h2) (o3 _ (by rw [cO_of e9]; unfold cO; omega))) (by rw [hpts, hz]; rfl)
        refine bs_iload (pc' := 202) dX6_reborrow_200 rfl rfl ?_
        refine bs_iload_n (pc' := 203) dX6_reborrow_202 rfl rfl ?_
        refine bs_iload (pc' := 205) dX6_reborrow_203 rfl rfl ?_
        refine bs_iadd (pc' := 206) dX6_reborrow_205 rfl ?_
        refine bs_icmp_ge (tgt := 237) (pc' := 209) dX6_reborrow_206 rfl rfl (fun c206 => absurd c206 (by rw [esum]; exact nI_ge (by omega) (by omega))) (fun _ => ?_)
        refine bs_aload_n (pc' := 210) dX6_reborrow_209 rfl rfl rfl ?_
        refine bs_iload_n (pc' := 211) dX6_reborrow_210 rfl rfl ?_
        refine bs_iload_n (pc' := 212) dX6_reborrow_211 rfl rfl ?_
        refine bs_iload (pc' := 214) dX6_reborrow_212 rfl rfl ?_
        refine bs_iload (pc' := 216) dX6_reborrow_214 rfl rfl ?_
        refine bs_iconst (v := 1) (pc' := 217) dX6_reborrow_216 (by decide) rfl ?_
        refine bs_icmp_ne (tgt := 227) (pc' := 220) dX6_reborrow_217 rfl rfl (fun c217 => ?_) (fun c217 => ?_)
        · refine bs_iconst (v := 0) (pc' := 228) dX6_reborrow_227 (by decide) rfl ?_
          exact j228 _ (by first | rw [if_pos c217, e11] | rw [if_neg c217])
        · refine bs_aload_n (pc' := 221) dX6_reborrow_220 rfl rfl rfl ?_
          refine bs_getf (pc' := 224) kf_X6_127 dX6_reborrow_221 mh_y rfl rfl ?_
          refine bs_goto (tgt := 228) dX6_reborrow_224 rfl ?_
          exact j228 _ (by first | rw [if_pos c217, e11] | rw [if_neg c217])
    -- the second loop: is there room
    have loop2 : fsV (rbK σ j kd) n i0 = none → ∀ f i b, i + f = i0 + n → i0 ≤ i → (decide (σ 8 0 < 60) && fit σ j kd n i0) = (b && fit σ j kd f i) → mB G h0 y A σ hs mX6_reborrow 3 145 [(0, .ref y), (1, .int p), (2, .int kd), (3, .int fr), (4, .int ct), (5, .int pr), (6, .int (bI b)), (7, .int (nI i))] [] (mQ2 G h0 y A hs (s_reb σ p kd fr ct pr)) := by
      intro hv f
      induction f with
      | zero =>
        intro i b hi hii hb
        have hb : (decide (σ 8 0 < 60) && fit σ j kd n i0) = b := by rw [hb]; unfold fit; exact Bool.and_true b
        refine bs_iload (pc' := 147) dX6_reborrow_145 rfl rfl ?_
        refine bs_iload_n (pc' := 148) dX6_reborrow_147 rfl rfl ?_
        refine bs_iload (pc' := 150) dX6_reborrow_148 rfl rfl ?_
        refine bs_iadd (pc' := 151) dX6_reborrow_150 rfl ?_
        refine bs_icmp_ge (tgt := 185) (pc' := 154) dX6_reborrow_151 rfl rfl (fun _ => ?_) (fun c151 => absurd (by rw [esum]; exact nI_le (by omega) (by omega)) c151)
        refine bs_iload (pc' := 187) dX6_reborrow_185 rfl rfl ?_
        refine bs_if_ne (tgt := 197) (pc' := 190) dX6_reborrow_187 rfl rfl (fun c187 => ?_) (fun c187 => ?_)
        · refine bs_iload_n (pc' := 198) dX6_reborrow_197 rfl rfl ?_
          refine bs_istore (pc' := 200) (lv' := [(0, _), (1, _), (2, _), (3, _), (4, _), (5, _), (6, _), (7, _)]) dX6_reborrow_198 rfl rfl rfl ?_
          rw [bI_n0] at c187
          rw [c187, Bool.and_eq_true, decide_eq_true_eq] at hb
          have l := loop3 hv hb.1 hb.2 n i0 σ (bI b) rfl (Nat.le_refl _) hI (fun _ _ => rfl) (fun _ _ _ => eqC.refl _ _) rfl
          rw [← ef] at l
          exact l
        · refine bs_aload_n (pc' := 191) dX6_reborrow_190 rfl rfl rfl ?_
          refine bs_bipush (v := (-4)) (pc' := 193) dX6_reborrow_191 (by decide) rfl ?_
          refine bs_callV (N := mX6_error) (pc' := 196) dX6_reborrow_193 km_X6_93 ko_X6_error (sm_error 2 (by decide) (by decide) hA) mh_y rfl rfl rfl (by omega) (Nat.le_refl _) (Nat.le_refl _) rfl ?_
          rintro _ _ ⟨rfl, rfl⟩
          have e : s_reb σ p kd fr ct pr = (-4, err σ 2) := by
            rw [es, hv]
            rw [bI_0] at c187
            exact if_neg (fun q => by rw [c187, decide_eq_true q.1, q.2] at hb; exact absurd hb (by decide))
          exact bs_iret dX6_reborrow_196 rfl ⟨by rw [e], by rw [e]; rfl⟩
      | succ f ih =>
        intro i b hi hii hb
        have hi' : i < i0 + n := by omega
        have hrb : rbK σ j kd i = 0 := fsV_none hv i hii (by omega)
        have hn12 := (hI.sz (hc80 i hi')).2
        have hsz13 : szB σ j kd i ≤ 13 := by
          unfold szB
          split
          · split
            · omega
            · next k hg =>
              have : ab σ (cO σ j i) k ≤ _ := (abf_le (pm := fun k => σ 6 (12 * cO σ j i + k)) (grf_lt hg)).2
              omega
          · omega
        have j177 : ∀ z, z = bI (b && decide (szB σ j kd i ≤ 12)) → mB G h0 y A σ hs mX6_reborrow 3 177 [(0, .ref y), (1, .int p), (2, .int kd), (3, .int fr), (4, .int ct), (5, .int pr), (6, .int (bI b)), (7, .int (nI i))] [.int z] (mQ2 G h0 y A hs (s_reb σ p kd fr ct pr)) := by
          intro z hz
          subst hz
          refine bs_istore (pc' := 179) (lv' := [(0, _), (1, _), (2, _), (3, _), (4, _), (5, _), (6, _), (7, _)]) dX6_reborrow_177 rfl rfl rfl ?_
          refine bs_iinc (pc' := 182) (lv' := [(0, _), (1, _), (2, _), (3, _), (4, _), (5, _), (6, _), (7, _)]) dX6_reborrow_179 rfl (nI_i1 i) rfl rfl rfl ?_
          refine bs_goto (tgt := 145) dX6_reborrow_182 rfl ?_
          exact ih (i + 1) _ (by omega) (by omega) (by rw [hb, Bool.and_assoc]; rfl)
        refine bs_iload (pc' := 147) dX6_reborrow_145 rfl rfl ?_
        refine bs_iload_n (pc' := 148) dX6_reborrow_147 rfl rfl ?_
        refine bs_iload (pc' := 150) dX6_reborrow_148 rfl rfl ?_
        refine bs_iadd (pc' := 151) dX6_reborrow_150 rfl ?_
        refine bs_icmp_ge (tgt := 185) (pc' := 154) dX6_reborrow_151 rfl rfl (fun c151 => absurd c151 (by rw [esum]; exact nI_ge (by omega) (by omega))) (fun _ => ?_)
        refine bs_iload (pc' := 156) dX6_reborrow_154 rfl rfl ?_
        refine bs_if_eq (tgt := 176) (pc' := 159) dX6_reborrow_156 rfl rfl (fun c156 => ?_) (fun c156 => ?_)
        · refine bs_iconst (v := 0) (pc' := 177) dX6_reborrow_176 (by decide) rfl ?_
          exact j177 _ (by first | (rw [bI_0] at c156; rw [c156]; rfl) | (rw [bI_n0] at c156; rw [c156]; rw [show (12 : Int32) = nI 12 from rfl, nI_ltI (by decide) (by omega)] at c169; first | (rw [decide_eq_false (by omega)]; rfl) | (rw [decide_eq_true (by omega)]; rfl)))
        · rw [ep]
          refine bs_aload_n (pc' := 160) dX6_reborrow_159 rfl rfl rfl ?_
          refine bs_iload_n (pc' := 161) dX6_reborrow_160 rfl rfl ?_
          refine bs_iload_n (pc' := 162) dX6_reborrow_161 rfl rfl ?_
          refine bs_iload (pc' := 164) dX6_reborrow_162 rfl rfl ?_
          refine bs_callV (N := mX6_sizeBy) (pc' := 167) dX6_reborrow_164 km_X6_134 ko_X6_sizeBy (sm_sizeBy hA hI (hpc i hi') (fun h => pt_gr hrb (by rw [h]; decide))) mh_y rfl rfl rfl (by omega) (Nat.le_refl _) (Nat.le_refl _) rfl ?_
          rintro _ _ ⟨rfl, rfl⟩
          rw [← ep]
          refine bs_bipush (v := 12) (pc' := 169) dX6_reborrow_167 (by decide) rfl ?_
          refine bs_icmp_gt (tgt := 176) (pc' := 172) dX6_reborrow_169 rfl rfl (fun c169 => ?_) (fun c169 => ?_)
          · refine bs_iconst (v := 0) (pc' := 177) dX6_reborrow_176 (by decide) rfl ?_
            exact j177 _ (by first | (rw [bI_0] at c156; rw [c156]; rfl) | (rw [bI_n0] at c156; rw [c156]; rw [show (12 : Int32) = nI 12 from rfl, nI_ltI (by decide) (by omega)] at c169; first | (rw [decide_eq_false (by omega)]; rfl) | (rw [decide_eq_true (by omega)]; rfl)))
          · refine bs_iconst (v := 1) (pc' := 173) dX6_reborrow_172 (by decide) rfl ?_
            refine bs_goto (tgt := 177) dX6_reborrow_173 rfl ?_
            exact j177 _ (by first | (rw [bI_0] at c156; rw [c156]; rfl) | (rw [bI_n0] at c156; rw [c156]; rw [show (12 : Int32) = nI 12 from rfl, nI_ltI (by decide) (by omega)] at c169; first | (rw [decide_eq_false (by omega)]; rfl) | (rw [decide_eq_true (by omega)]; rfl)))
    -- the first loop: violations
    have loop1 : ∀ f i, i + f = i0 + n → i0 ≤ i → fsV (rbK σ j kd) n i0 = fsV (rbK σ j kd) f i → mB G h0 y A σ hs mX6_reborrow 3 87 [(0, .ref y), (1, .int p), (2, .int kd), (3, .int fr), (4, .int ct), (5, .int pr), (6, .int (nI i))] [] (mQ2 G h0 y A hs (s_reb σ p kd fr ct pr)) := by
      intro f
      induction f with
      | zero =>
        intro i hi hii hf
        have hv : fsV (rbK σ j kd) n i0 = none := hf
        refine bs_iload (pc' := 89) dX6_reborrow_87 rfl rfl ?_
        refine bs_iload_n (pc' := 90) dX6_reborrow_89 rfl rfl ?_
        refine bs_iload (pc' := 92) dX6_reborrow_90 rfl rfl ?_
        refine bs_iadd (pc' := 93) dX6_reborrow_92 rfl ?_
        refine bs_icmp_ge (tgt := 126) (pc' := 96) dX6_reborrow_93 rfl rfl (fun _ => ?_) (fun c93 => absurd (by rw [esum]; exact nI_le (by omega) (by omega)) c93)
        refine bs_aload_n (pc' := 127) dX6_reborrow_126 rfl rfl rfl ?_
        refine bs_getf (pc' := 130) kf_X6_64 dX6_reborrow_127 mh_y rfl rfl ?_
        refine bs_bipush (v := 60) (pc' := 132) dX6_reborrow_130 (by decide) rfl ?_
        refine bs_icmp_ge (tgt := 139) (pc' := 135) dX6_reborrow_132 rfl rfl (fun c132 => ?_) (fun c132 => ?_)
        · refine bs_iconst (v := 0) (pc' := 140) dX6_reborrow_139 (by decide) rfl ?_
          have l := loop2 hv n i0 (decide (σ 8 0 < 60)) rfl (Nat.le_refl _) rfl
          rw [← ef] at l
          refine bs_topi (bI (decide (σ 8 0 < 60))) (by first | (rw [decide_eq_false (Int32.not_lt.mpr c132)]; rfl) | (rw [decide_eq_true (Int32.not_le.mp c132)]; rfl)) ?_
          refine bs_istore (pc' := 142) (lv' := [(0, _), (1, _), (2, _), (3, _), (4, _), (5, _), (6, _)]) dX6_reborrow_140 rfl rfl rfl ?_
          refine bs_iload_n (pc' := 143) dX6_reborrow_142 rfl rfl ?_
          refine bs_istore (pc' := 145) (lv' := [(0, _), (1, _), (2, _), (3, _), (4, _), (5, _), (6, _), (7, _)]) dX6_reborrow_143 rfl rfl rfl ?_
          exact l
        · refine bs_iconst (v := 1) (pc' := 136) dX6_reborrow_135 (by decide) rfl ?_
          refine bs_goto (tgt := 140) dX6_reborrow_136 rfl ?_
          have l := loop2 hv n i0 (decide (σ 8 0 < 60)) rfl (Nat.le_refl _) rfl
          rw [← ef] at l
          refine bs_topi (bI (decide (σ 8 0 < 60))) (by first | (rw [decide_eq_false (Int32.not_lt.mpr c132)]; rfl) | (rw [decide_eq_true (Int32.not_le.mp c132)]; rfl)) ?_
          refine bs_istore (pc' := 142) (lv' := [(0, _), (1, _), (2, _), (3, _), (4, _), (5, _), (6, _)]) dX6_reborrow_140 rfl rfl rfl ?_
          refine bs_iload_n (pc' := 143) dX6_reborrow_142 rfl rfl ?_
          refine bs_istore (pc' := 145) (lv' := [(0, _), (1, _), (2, _), (3, _), (4, _), (5, _), (6, _), (7, _)]) dX6_reborrow_143 rfl rfl rfl ?_
          exact l
      | succ f ih =>
        intro i hi hii hf
        have hi' : i < i0 + n := by omega
        refine bs_iload (pc' := 89) dX6_reborrow_87 rfl rfl ?_
        refine bs_iload_n (pc' := 90) dX6_reborrow_89 rfl rfl ?_
        refine bs_iload (pc' := 92) dX6_reborrow_90 rfl rfl ?_
        refine bs_iadd (pc' := 93) dX6_reborrow_92 rfl ?_
        refine bs_icmp_ge (tgt := 126) (pc' := 96) dX6_reborrow_93 rfl rfl (fun c93 => absurd c93 (by rw [esum]; exact nI_ge (by omega) (by omega))) (fun _ => ?_)
        rw [ep]
        refine bs_aload_n (pc' := 97) dX6_reborrow_96 rfl rfl rfl ?_
        refine bs_iload_n (pc' := 98) dX6_reborrow_97 rfl rfl ?_
        refine bs_iload_n (pc' := 99) dX6_reborrow_98 rfl rfl ?_
        refine bs_iload (pc' := 101) dX6_reborrow_99 rfl rfl ?_
        refine bs_callV (N := mX6_reborrowKind) (pc' := 104) dX6_reborrow_101 km_X6_130 ko_X6_reborrowKind (sm_reborrowKind hA hI (hpc i hi')) mh_y rfl rfl rfl (by omega) (Nat.le_refl _) (Nat.le_refl _) rfl ?_
        rintro _ _ ⟨rfl, rfl⟩
        rw [← ep]
        refine bs_istore (pc' := 106) (lv' := [(0, _), (1, _), (2, _), (3, _), (4, _), (5, _), (6, _), (7, _)]) dX6_reborrow_104 rfl rfl rfl ?_
        refine bs_iload (pc' := 108) dX6_reborrow_106 rfl rfl ?_
        refine bs_if_eq (tgt := 120) (pc' := 111) dX6_reborrow_108 rfl rfl (fun c108 => ?_) (fun c108 => ?_)
        · refine bs_iinc (pc' := 123) (lv' := [(0, _), (1, _), (2, _), (3, _), (4, _), (5, _), (6, _), (7, _)]) dX6_reborrow_120 rfl (nI_i1 i) rfl rfl rfl ?_
          refine bs_goto (tgt := 87) dX6_reborrow_123 rfl ?_
          refine bs_sub (lv' := [(0, _), (1, _), (2, _), (3, _), (4, _), (5, _), (6, _)]) [0, 1, 2, 3, 4, 5, 6] rfl ?_
          exact ih (i + 1) (by omega) (by omega) (by rw [hf]; show fsV (rbK σ j kd) (f + 1) i = _; unfold fsV; rw [if_pos c108]; cases f <;> rfl)
        · refine bs_aload_n (pc' := 112) dX6_reborrow_111 rfl rfl rfl ?_
          refine bs_iload (pc' := 114) dX6_reborrow_112 rfl rfl ?_
          refine bs_iload (pc' := 116) dX6_reborrow_114 rfl rfl ?_
          refine bs_callV (N := mX6_violate) (pc' := 119) dX6_reborrow_116 km_X6_114 ko_X6_violate (sm_violate hA) mh_y rfl rfl rfl (by omega) (Nat.le_refl _) (Nat.le_refl _) rfl ?_
          rintro _ _ ⟨rfl, rfl⟩
          have e : s_reb σ p kd fr ct pr = (-5, vio σ (rbK σ j kd i) (nI i)) := by
            have e1 : fsV (rbK σ j kd) (f + 1) i = some i := by unfold fsV; rw [if_neg c108]
            rw [es, hf, e1]
          exact bs_iret dX6_reborrow_119 rfl ⟨by rw [e], by rw [e]; rfl⟩
    refine bs_iload_n (pc' := 85) dX6_reborrow_84 rfl rfl ?_
    refine bs_istore (pc' := 87) (lv' := [(0, _), (1, _), (2, _), (3, _), (4, _), (5, _), (6, _)]) dX6_reborrow_85 rfl rfl rfl ?_
    have l := loop1 n i0 rfl (Nat.le_refl _) rfl
    rw [← ef] at l
    exact l
  refine bs_aload_n (pc' := 1) dX6_reborrow_0 rfl rfl rfl ?_
  refine bs_iload_n (pc' := 2) dX6_reborrow_1 rfl rfl ?_
  refine bs_iload_n (pc' := 3) dX6_reborrow_2 rfl rfl ?_
  refine bs_callV (N := mX6_isCell) (pc' := 6) dX6_reborrow_3 km_X6_107 ko_X6_isCell (sm_isCell hA hI) mh_y rfl rfl rfl (by omega) (Nat.le_refl _) (Nat.le_refl _) rfl ?_
  rintro _ _ ⟨rfl, rfl⟩
  refine bs_if_eq (tgt := 28) (pc' := 9) dX6_reborrow_6 rfl rfl (fun c6 => ?_) (fun c6 => ?_)
  · refine bs_aload_n (pc' := 29) dX6_reborrow_28 rfl rfl rfl ?_
    refine bs_bipush (v := (-2)) (pc' := 31) dX6_reborrow_29 (by decide) rfl ?_
    refine bs_callV (N := mX6_error) (pc' := 34) dX6_reborrow_31 km_X6_93 ko_X6_error (sm_error 0 (by decide) (by decide) hA) mh_y rfl rfl rfl (by omega) (Nat.le_refl _) (Nat.le_refl _) rfl ?_
    rintro _ _ ⟨rfl, rfl⟩
    have e : s_reb σ p kd fr ct pr = (-2, err σ 0) := if_neg (by first | (rw [bI_0] at c6; rw [c6]; exact fun q => absurd q.1 (by decide)) | (rw [bI_0, decide_eq_false_iff_not] at c15; exact fun q => c15 q.2.1) | (rw [bI_0, decide_eq_false_iff_not] at c25; exact fun q => c25 q.2.2.1))
    exact bs_iret dX6_reborrow_34 rfl ⟨by rw [e], by rw [e]; rfl⟩
  · refine bs_iload_n (pc' := 10) dX6_reborrow_9 rfl rfl ?_
    refine bs_iconst (v := 0) (pc' := 11) dX6_reborrow_10 (by decide) rfl ?_
    refine bs_iconst (v := 2) (pc' := 12) dX6_reborrow_11 (by decide) rfl ?_
    refine bs_callS (N := mX6_in) (pc' := 15) dX6_reborrow_12 km_X6_67 ko_X6_in sm_in rfl rfl rfl (by omega) (Nat.le_refl _) (Nat.le_refl _) rfl ?_
    rintro _ _ ⟨rfl, rfl⟩
    refine bs_if_eq (tgt := 28) (pc' := 18) dX6_reborrow_15 rfl rfl (fun c15 => ?_) (fun c15 => ?_)
    · refine bs_aload_n (pc' := 29) dX6_reborrow_28 rfl rfl rfl ?_
      refine bs_bipush (v := (-2)) (pc' := 31) dX6_reborrow_29 (by decide) rfl ?_
      refine bs_callV (N := mX6_error) (pc' := 34) dX6_reborrow_31 km_X6_93 ko_X6_error (sm_error 0 (by decide) (by decide) hA) mh_y rfl rfl rfl (by omega) (Nat.le_refl _) (Nat.le_refl _) rfl ?_
      rintro _ _ ⟨rfl, rfl⟩
      have e : s_reb σ p kd fr ct pr = (-2, err σ 0) := if_neg (by first | (rw [bI_0] at c6; rw [c6]; exact fun q => absurd q.1 (by decide)) | (rw [bI_0, decide_eq_false_iff_not] at c15; exact fun q => c15 q.2.1) | (rw [bI_0, decide_eq_false_iff_not] at c25; exact fun q => c25 q.2.2.1))
      exact bs_iret dX6_reborrow_34 rfl ⟨by rw [e], by rw [e]; rfl⟩
    · refine bs_iload (pc' := 20) dX6_reborrow_18 rfl rfl ?_
      refine bs_iconst (v := 0) (pc' := 21) dX6_reborrow_20 (by decide) rfl ?_
      refine bs_iconst (v := 1) (pc' := 22) dX6_reborrow_21 (by decide) rfl ?_
      refine bs_callS (N := mX6_in) (pc' := 25) dX6_reborrow_22 km_X6_67 ko_X6_in sm_in rfl rfl rfl (by omega) (Nat.le_refl _) (Nat.le_refl _) rfl ?_
      rintro _ _ ⟨rfl, rfl⟩
      refine bs_if_ne (tgt := 35) (pc' := 28) dX6_reborrow_25 rfl rfl (fun c25 => ?_) (fun c25 => ?_)
      · rw [bI_n0] at c6 c15 c25
        rw [decide_eq_true_eq] at c15 c25
        obtain ⟨j, i0, ep, ef, hp⟩ := isC_t hI c6
        have h60 := hI.p60 hp.1
        have howe := hI.owe hp.1
        have h10 := hI.ow10 hp.1
        have hcl := (hI.cl (hI.ow hp.1).2).1
        have hcl2 := hcl.2
        have hz1 : zN p = j := by rw [ep]; exact zN_nI (by omega)
        have hp2 := hp.2
        refine bs_iload (pc' := 37) dX6_reborrow_35 rfl rfl ?_
        refine bs_iconst (v := 1) (pc' := 38) dX6_reborrow_37 (by decide) rfl ?_
        refine bs_aload_n (pc' := 39) dX6_reborrow_38 rfl rfl rfl ?_
        refine bs_getf (pc' := 42) kf_X6_7 dX6_reborrow_39 mh_y rfl rfl ?_
        refine bs_aload_n (pc' := 43) dX6_reborrow_42 rfl rfl rfl ?_
        refine bs_getf (pc' := 46) kf_X6_32 dX6_reborrow_43 mh_y rfl rfl ?_
        refine bs_iload_n (pc' := 47) dX6_reborrow_46 rfl rfl ?_
        refine bm_ald (pc' := 48) dX6_reborrow_47 hA rfl rfl j ep h60 rfl ?_
        refine bm_ald (pc' := 49) dX6_reborrow_48 hA rfl rfl (zN (σ 9 j)) howe h10 rfl ?_
        refine bs_iload_n (pc' := 50) dX6_reborrow_49 rfl rfl ?_
        refine bs_isub (pc' := 51) dX6_reborrow_50 rfl ?_
        refine bs_callS (N := mX6_in) (pc' := 54) dX6_reborrow_51 km_X6_67 ko_X6_in sm_in rfl rfl rfl (by omega) (Nat.le_refl _) (Nat.le_refl _) rfl ?_
        rintro _ _ ⟨rfl, rfl⟩
        refine bs_if_ne (tgt := 64) (pc' := 57) dX6_reborrow_54 rfl rfl (fun c54 => ?_) (fun c54 => ?_)
        · rw [bI_n0, decide_eq_true_eq] at c54
          obtain ⟨n, ec, hn⟩ : ∃ n, ct = nI n ∧ i0 + n ≤ zN (σ 1 (zN (σ 9 j))) := by
            have h1 := c54.2
            rw [hcl.1, ef, pk_sub (by omega)] at h1
            obtain ⟨n, a1, a2⟩ := nI_of2 (x := ct) (M := nI (zN (σ 1 (zN (σ 9 j))) - i0)) (n := zN (σ 1 (zN (σ 9 j))) - i0) (nI_toInt (by omega)) (by rw [Int32.not_lt]; exact Int32.le_trans (by decide) c54.1) h1
            exact ⟨n, a2, by omega⟩
          refine bs_iload (pc' := 66) dX6_reborrow_64 rfl rfl ?_
          refine bs_iconst (v := 1) (pc' := 67) dX6_reborrow_66 (by decide) rfl ?_
          refine bs_icmp_ne (tgt := 84) (pc' := 70) dX6_reborrow_67 rfl rfl (fun c67 => ?_) (fun c67 => ?_)
          · exact key j i0 n ep ef ec hp hn c6 c15 c25 (by rw [hz1]; exact c54) (by first | exact fun q => c67 q.1 | exact fun q => c74 q.2)
          · refine bs_aload_n (pc' := 71) dX6_reborrow_70 rfl rfl rfl ?_
            refine bs_getf (pc' := 74) kf_X6_127 dX6_reborrow_71 mh_y rfl rfl ?_
            refine bs_if_ne (tgt := 84) (pc' := 77) dX6_reborrow_74 rfl rfl (fun c74 => ?_) (fun c74 => ?_)
            · exact key j i0 n ep ef ec hp hn c6 c15 c25 (by rw [hz1]; exact c54) (by first | exact fun q => c67 q.1 | exact fun q => c74 q.2)
            · refine bs_aload_n (pc' := 78) dX6_reborrow_77 rfl rfl rfl ?_
              refine bs_bipush (v := (-3)) (pc' := 80) dX6_reborrow_78 (by decide) rfl ?_
              refine bs_callV (N := mX6_error) (pc' := 83) dX6_reborrow_80 km_X6_93 ko_X6_error (sm_error 1 (by decide) (by decide) hA) mh_y rfl rfl rfl (by omega) (Nat.le_refl _) (Nat.le_refl _) rfl ?_
              rintro _ _ ⟨rfl, rfl⟩
              have e : s_reb σ p kd fr ct pr = (-3, err σ 1) := by rw [s_reb, if_pos ⟨c6, c15, c25, by rw [hz1]; exact c54⟩, if_pos ⟨c67, c74⟩]
              exact bs_iret dX6_reborrow_83 rfl ⟨by rw [e], by rw [e]; rfl⟩
        · refine bs_aload_n (pc' := 58) dX6_reborrow_57 rfl rfl rfl ?_
          refine bs_bipush (v := (-2)) (pc' := 60) dX6_reborrow_58 (by decide) rfl ?_
          refine bs_callV (N := mX6_error) (pc' := 63) dX6_reborrow_60 km_X6_93 ko_X6_error (sm_error 0 (by decide) (by decide) hA) mh_y rfl rfl rfl (by omega) (Nat.le_refl _) (Nat.le_refl _) rfl ?_
          rintro _ _ ⟨rfl, rfl⟩
          have e : s_reb σ p kd fr ct pr = (-2, err σ 0) := if_neg (by rw [bI_0, decide_eq_false_iff_not] at c54; rw [hz1]; exact fun q => c54 q.2.2.2)
          exact bs_iret dX6_reborrow_63 rfl ⟨by rw [e], by rw [e]; rfl⟩
      · refine bs_aload_n (pc' := 29) dX6_reborrow_28 rfl rfl rfl ?_
        refine bs_bipush (v := (-2)) (pc' := 31) dX6_reborrow_29 (by decide) rfl ?_
        refine bs_callV (N := mX6_error) (pc' := 34) dX6_reborrow_31 km_X6_93 ko_X6_error (sm_error 0 (by decide) (by decide) hA) mh_y rfl rfl rfl (by omega) (Nat.le_refl _) (Nat.le_refl _) rfl ?_
        rintro _ _ ⟨rfl, rfl⟩
        have e : s_reb σ p kd fr ct pr = (-2, err σ 0) := if_neg (by first | (rw [bI_0] at c6; rw [c6]; exact fun q => absurd q.1 (by decide)) | (rw [bI_0, decide_eq_false_iff_not] at c15; exact fun q => c15 q.2.1) | (rw [bI_0, decide_eq_false_iff_not] at c25; exact fun q => c25 q.2.2.1))
        exact bs_iret dX6_reborrow_34 rfl ⟨by rw [e], by rw [e]; rfl⟩
end Model4
