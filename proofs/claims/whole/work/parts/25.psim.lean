/-! the class's parse finds what the reference's finds -/
/-- midst of a command: the class has skipped the spaces already -/
def rS (σ ψ : MS) : Prop := pOk σ ∧ pOk ψ ∧ ψ 17 = σ 17 ∧ ψ 18 = σ 18 ∧ ψ 21 0 = σ 21 0 ∧ pA ψ = pA (t_bl σ)
theorem bl_A {σ : MS} (h : pOk σ) : pA (t_bl σ) = skp (σ 17) (pN σ - pA σ) (pA σ) := by
  have hn := h.n
  have h1 := h.2.2.1
  have := skp_le (t := σ 17) (pN σ - pA σ) (pA σ)
  exact sAt_A (by omega)
theorem skp_2 {t : Nat → Int32} : ∀ (f a : Nat), skp t (a + f - skp t f a) (skp t f a) = skp t f a
  | 0, a => by
    show skp t (a + 0 - a) a = a
    rw [show a + 0 - a = 0 by omega]
    rfl
  | f + 1, a => by
    by_cases h : t a = 32
    · have e : skp t (f + 1) a = skp t f (a + 1) := by rw [skp, if_pos h]
      rw [e, show a + (f + 1) = a + 1 + f by omega]
      exact skp_2 f (a + 1)
    · have e : skp t (f + 1) a = a := by rw [skp, if_neg h]
      rw [e, show a + (f + 1) - a = f + 1 by omega]
      exact e
theorem bl_2 {σ : MS} (h : pOk σ) : pA (t_bl (t_bl σ)) = pA (t_bl σ) := by
  obtain ⟨b1, b2, b3⟩ := pOk_bl h
  have h1 := h.2.2.1
  rw [bl_A b1, b3 17 (by decide), show pN (t_bl σ) = pN σ by unfold pN; rw [b3 18 (by decide)], bl_A h]
  have := skp_2 (t := σ 17) (pN σ - pA σ) (pA σ)
  rw [show pA σ + (pN σ - pA σ) = pN σ by omega] at this
  exact this
theorem bl_at {σ τ : MS} (h : pOk σ) (h' : pOk τ) (e17 : τ 17 = σ 17) (e18 : τ 18 = σ 18) (eA : pA τ = pA σ) : pA (t_bl τ) = pA (t_bl σ) := by
  rw [bl_A h, bl_A h', e17, eA]
  unfold pN
  rw [e18]
theorem dg_eq {σ ψ : MS} {a : Nat} (e17 : ψ 17 = σ 17) (e18 : ψ 18 = σ 18) : dg ψ a = dg σ a := by
  unfold dg isAt pN
  rw [e17, e18]
theorem sim_arg {σ ψ : MS} {to : Nat} (h : rS σ ψ) : (c_arg ψ to).1 = (t_num σ to).1 ∧ ((t_num σ to).1 = true → rS (t_num σ to).2 (c_arg ψ to).2 ∧ (c_arg ψ to).2 20 to = (t_num σ to).2 20 to) ∧ ((t_num σ to).1 = false → pA (c_arg ψ to).2 = pA (t_num σ to).2) ∧ (∀ i, i ≠ to → (c_arg ψ to).2 20 i = ψ 20 i ∧ (t_num σ to).2 20 i = σ 20 i) := by
  obtain ⟨h1, h2, e17, e18, e21, eA⟩ := h
  obtain ⟨b1, b2, b3⟩ := pOk_bl h1
  have hn := h1.n
  have e17' : ψ 17 = t_bl σ 17 := by rw [b3 17 (by decide)]; exact e17
  have e18' : ψ 18 = t_bl σ 18 := by rw [b3 18 (by decide)]; exact e18
  have e21' : ψ 21 0 = t_bl σ 21 0 := by rw [b3 21 (by decide)]; exact e21
  have e20' : t_bl σ 20 = σ 20 := b3 20 (by decide)
  have eN : pN ψ = pN (t_bl σ) := by unfold pN; rw [e18']
  have hn2 := b1.n
  have hn3 := b1.2.2.1
  have key : ∀ a v w, pA (t_bl σ) ≤ a → a ≤ pN (t_bl σ) → v = w → rS (ms_u (sAt (t_bl σ) a) 20 to v) (ms_u (t_bl (sAt ψ a)) 20 to w) ∧ ms_u (t_bl (sAt ψ a)) 20 to w 20 to = ms_u (sAt (t_bl σ) a) 20 to v 20 to := by
    intro a v w g1 g2 evw
    have k1 := pOk_at b1 g1 g2
    have k2 := pOk_at (a := a) h2 (by omega) (by omega)
    obtain ⟨c1, c2, c3⟩ := pOk_bl k2
    have m1 : pOk (ms_u (sAt (t_bl σ) a) 20 to v) := pOk_u k1 (by decide)
    refine ⟨⟨m1, pOk_u c1 (by decide), ?_, ?_, ?_, ?_⟩, ?_⟩
    · rw [ms_u_n (by decide), ms_u_n (by decide), c3 17 (by decide), sAt_n (by decide), sAt_n (by decide)]; exact e17'
    · rw [ms_u_n (by decide), ms_u_n (by decide), c3 18 (by decide), sAt_n (by decide), sAt_n (by decide)]; exact e18'
    · rw [ms_u_n (by decide), ms_u_n (by decide), c3 21 (by decide), sAt_n (by decide), sAt_n (by decide)]; exact e21'
    · show pA (t_bl (sAt ψ a)) = _
      refine bl_at m1 k2 (by rw [sAt_n (by decide), ms_u_n (by decide), sAt_n (by decide)]; exact e17') (by rw [sAt_n (by decide), ms_u_n (by decide), sAt_n (by decide)]; exact e18') ?_
      show pA (sAt ψ a) = pA (sAt (t_bl σ) a)
      rw [sAt_A (by omega), sAt_A (by omega)]
    · rw [ms_u_k, ms_u_k, evw]
      unfold upd
      rw [if_pos rfl, if_pos rfl]
  have off : ∀ (τ : MS) (v : Int32) i, i ≠ to → ms_u τ 20 to v 20 i = τ 20 i := fun τ v i hi => by
    rw [ms_u_k]
    exact if_neg hi
  have offb : ∀ a (v : Int32) i, i ≠ to → ms_u (t_bl (sAt ψ a)) 20 to v 20 i = ψ 20 i := fun a v i hi => by
    rw [off _ _ _ hi]
    rfl
  have offs : ∀ a (v : Int32) i, i ≠ to → ms_u (sAt (t_bl σ) a) 20 to v 20 i = σ 20 i := fun a v i hi => by
    rw [off _ _ _ hi, sAt_n (by decide), e20']
  have zero : (10 : Int32) * 0 = 0 := by decide
  unfold t_num t_dig c_arg
  rw [eA, dg_eq e17' e18', dg_eq e17' e18', dg_eq e17' e18']
  by_cases d0 : dg (t_bl σ) (pA (t_bl σ)) = true
  · have l0 := dg_lt d0
    rw [if_pos d0, if_pos d0]
    by_cases d1 : dg (t_bl σ) (pA (t_bl σ) + 1) = true
    · have l1 := dg_lt d1
      rw [if_pos d1, if_pos d1]
      have hv : 10 * (10 * 0 + t_bl σ 17 (pA (t_bl σ)) - 48) + t_bl σ 17 (pA (t_bl σ) + 1) - 48 = 10 * (ψ 17 (pA (t_bl σ)) - 48) + ψ 17 (pA (t_bl σ) + 1) - 48 := by
        rw [zero, Int32.zero_add, e17']
      by_cases d2 : dg (t_bl σ) (pA (t_bl σ) + 2) = true
      · rw [if_pos d2, d2]
        refine ⟨rfl, fun q => Bool.noConfusion (show false = true from q), fun _ => ?_, fun i hi => ⟨by show sAt ψ (pA (t_bl σ) + 2) 20 i = ψ 20 i; rw [sAt_n (by decide)], offs _ _ i hi⟩⟩
        show pA (sAt ψ _) = pA (sAt (t_bl σ) _)
        rw [sAt_A (by omega), sAt_A (by omega)]
      · have d2' : dg (t_bl σ) (pA (t_bl σ) + 2) = false := by simpa using d2
        rw [if_neg d2, d2']
        exact ⟨rfl, fun _ => key _ _ _ (by omega) (by omega) hv, fun q => Bool.noConfusion (show true = false from q), fun i hi => ⟨offb _ _ i hi, offs _ _ i hi⟩⟩
    · rw [if_neg d1, if_neg d1]
      have hv : 10 * 0 + t_bl σ 17 (pA (t_bl σ)) - 48 = ψ 17 (pA (t_bl σ)) - 48 := by
        rw [zero, Int32.zero_add, e17']
      exact ⟨rfl, fun _ => key _ _ _ (by omega) (by omega) hv, fun q => Bool.noConfusion (show true = false from q), fun i hi => ⟨offb _ _ i hi, offs _ _ i hi⟩⟩
  · rw [if_neg d0, if_neg d0]
    refine ⟨rfl, fun q => Bool.noConfusion (show false = true from q), fun _ => ?_, fun i hi => ⟨rfl, offs _ _ i hi⟩⟩
    show pA ψ = pA (sAt (t_bl σ) _)
    rw [sAt_A (by omega)]
    exact eA
theorem sim_args {base : Nat} : ∀ (f k : Nat) (σ ψ : MS), rS σ ψ → (c_args base f k ψ).1 = (t_nums base f k σ).1 ∧ ((t_nums base f k σ).1 = true → rS (t_nums base f k σ).2 (c_args base f k ψ).2 ∧ ∀ j, k ≤ j → j < k + f → (c_args base f k ψ).2 20 (base + j) = (t_nums base f k σ).2 20 (base + j)) ∧ ((t_nums base f k σ).1 = false → pA (c_args base f k ψ).2 = pA (t_nums base f k σ).2) ∧ (∀ i, i < base + k → (c_args base f k ψ).2 20 i = ψ 20 i ∧ (t_nums base f k σ).2 20 i = σ 20 i)
  | 0, k, σ, ψ, h => ⟨rfl, fun _ => ⟨h, fun j h1 h2 => absurd h2 (by omega)⟩, fun q => Bool.noConfusion (show true = false from q), fun _ _ => ⟨rfl, rfl⟩⟩
  | f + 1, k, σ, ψ, h => by
    obtain ⟨a1, a2, a3, a4⟩ := sim_arg (to := base + k) h
    unfold c_args t_nums
    rw [a1]
    by_cases q : (t_num σ (base + k)).1 = true
    · rw [if_pos q, if_pos q]
      obtain ⟨r1, r2⟩ := a2 q
      obtain ⟨b1, b2, b3, b4⟩ := sim_args (base := base) f (k + 1) _ _ r1
      refine ⟨b1, fun z => ?_, b3, fun i hi => ?_⟩
      · obtain ⟨s1, s2⟩ := b2 z
        refine ⟨s1, fun j h1 h2 => ?_⟩
        by_cases e : j = k
        · subst e
          rw [(b4 (base + j) (by omega)).1, (b4 (base + j) (by omega)).2]
          exact r2
        · exact s2 j (by omega) (by omega)
      · rw [(b4 i (by omega)).1, (b4 i (by omega)).2]
        exact a4 i (by omega)
    · rw [if_neg q, if_neg q]
      have q' : (t_num σ (base + k)).1 = false := by simpa using q
      exact ⟨rfl, fun z => Bool.noConfusion (show false = true from z), fun _ => a3 q', fun i hi => a4 i (by omega)⟩
/-- the commands found so far are the same -/
def agr (σ ψ : MS) : Prop := ∀ k, k < zN (σ 21 0) → ψ 19 k = σ 19 k ∧ ∃ m, mny (σ 19 k) = some m ∧ ∀ j, j < m → ψ 20 (3 * k + j) = σ 20 (3 * k + j)
/-- between commands -/
def rC (σ ψ : MS) : Prop := rS σ ψ ∧ pA ψ = pA σ ∧ agr σ ψ
theorem sim_cmd {σ ψ : MS} (h : rC σ ψ) (hlt : pA σ < pN σ) : (c_cmd ψ).1 = (t_cmd σ).1 ∧ ((t_cmd σ).1 = true → rC (t_cmd σ).2 (c_cmd ψ).2) ∧ ((t_cmd σ).1 = false → pA (c_cmd ψ).2 = pA (t_cmd σ).2) := by
  obtain ⟨⟨h1, h2, e17, e18, e21, eA⟩, eA0, hag⟩ := h
  have hn := h1.n
  have eN : pN ψ = pN σ := by unfold pN; rw [e18]
  have hb : bHere ψ = σ 17 (pA σ) := by
    unfold bHere
    rw [if_pos (by omega), eA0, e17]
  have hcm := h1.2.2.2.2
  unfold c_cmd t_cmd
  rw [hb, e21, eA0]
  cases hm : mny (σ 17 (pA σ)) with
  | none => exact ⟨rfl, fun q => Bool.noConfusion (show false = true from q), fun _ => eA0⟩
  | some m =>
    have hm3 := mny_3 hm
    obtain ⟨b1, b2, b3⟩ := beg_ok h1 hlt
    have k2 := pOk_at (a := pA σ + 1) h2 (by omega) (by omega)
    obtain ⟨c1, c2, c3⟩ := pOk_bl k2
    have r0 : rS (t_beg σ) (t_bl (sAt ψ (pA σ + 1))) := by
      refine ⟨b1, c1, ?_, ?_, ?_, ?_⟩
      · rw [c3 17 (by decide), sAt_n (by decide), b3 17 (by decide) (by decide)]; exact e17
      · rw [c3 18 (by decide), sAt_n (by decide), b3 18 (by decide) (by decide)]; exact e18
      · rw [c3 21 (by decide), sAt_n (by decide), b3 21 (by decide) (by decide)]; exact e21
      · refine bl_at b1 k2 (by rw [sAt_n (by decide), b3 17 (by decide) (by decide)]; exact e17) (by rw [sAt_n (by decide), b3 18 (by decide) (by decide)]; exact e18) ?_
        rw [sAt_A (by omega), b2]
    obtain ⟨g1, g2, g3, g4⟩ := sim_args (base := 3 * zN (σ 21 0)) m 0 _ _ r0
    obtain ⟨n1, n2, n3⟩ := nums_ok (base := 3 * zN (σ 21 0)) m 0 _ b1
    obtain ⟨m1, m2, m3⟩ := args_ok (base := 3 * zN (σ 21 0)) m 0 _ c1
    show (if (c_args (3 * zN (σ 21 0)) m 0 (t_bl (sAt ψ (pA σ + 1)))).1 = true then _ else _ : Bool × MS).1 = _ ∧ _
    dsimp only
    rw [g1]
    by_cases q : (t_nums (3 * zN (σ 21 0)) m 0 (t_beg σ)).1 = true
    · rw [if_pos q, if_pos q]
      obtain ⟨r1, r2⟩ := g2 q
      generalize hτ : (t_nums (3 * zN (σ 21 0)) m 0 (t_beg σ)).2 = τ at *
      generalize hυ : (c_args (3 * zN (σ 21 0)) m 0 (t_bl (sAt ψ (pA σ + 1)))).2 = υ at *
      obtain ⟨t1, t2, t17, t18, t21, tA⟩ := r1
      obtain ⟨d1, d2, d3⟩ := pOk_bl t1
      have hnt := t1.n
      have f17 : υ 17 = t_bl τ 17 := by rw [d3 17 (by decide)]; exact t17
      have f18 : υ 18 = t_bl τ 18 := by rw [d3 18 (by decide)]; exact t18
      have f21 : υ 21 0 = t_bl τ 21 0 := by rw [d3 21 (by decide)]; exact t21
      have fN : pN υ = pN (t_bl τ) := by unfold pN; rw [f18]
      have s21 : τ 21 = σ 21 := by rw [n3 21 (by decide) (by decide), b3 21 (by decide) (by decide)]
      have s19 : τ 19 = t_beg σ 19 := n3 19 (by decide) (by decide)
      have u19 : υ 19 = ψ 19 := by rw [m3 19 (by decide) (by decide), c3 19 (by decide), sAt_n (by decide)]
      have hne : isAt (t_bl τ) (pA (t_bl τ)) 59 59 = decide (bHere υ = 59) := by
        unfold isAt bHere
        rw [fN, tA, f17]
        by_cases z : pA (t_bl τ) < pN (t_bl τ)
        · rw [if_pos z, decide_eq_true z, Bool.true_and, decide_eq_decide]
          constructor
          · rintro ⟨z1, z2⟩; exact Int32.le_antisymm z2 z1
          · intro z; rw [z]; exact ⟨Int32.le_refl _, Int32.le_refl _⟩
        · rw [if_neg z, decide_eq_false z, Bool.false_and]
          decide
      unfold c_end t_end
      by_cases z : bHere υ = 59
      · rw [if_pos z, if_pos (by rw [hne, decide_eq_true z])]
        have hlt2 : pA υ < pN υ := here_59 z
        refine ⟨rfl, fun _ => ?_, fun q => Bool.noConfusion (show true = false from q)⟩
        have k3 := pOk_at (a := pA υ + 1) t2 (by omega) (by omega)
        obtain ⟨w1, w2, w3⟩ := pOk_bl k3
        have hz := zN_s (x := σ 21 0) (b := 120) ⟨h1.2.2.2.1, by omega⟩ (by decide)
        have e5 : pA (t_bl τ) + 1 ≤ pN (t_bl τ) := by omega
        obtain ⟨v1, v2, v3, v4⟩ := end_ok (τ := t_bl τ) d1 (by rw [d3 21 (by decide), s21]; omega)
        obtain ⟨x1, x2, x3, x4⟩ := cend_ok (c := σ 17 (pA σ)) t2 (by rw [f21, d3 21 (by decide), s21]; omega)
        have hat : isAt (t_bl τ) (pA (t_bl τ)) 59 59 = true := by rw [hne, decide_eq_true z]
        rw [t_end, if_pos hat] at v1 v4
        rw [c_end, if_pos z] at x1 x4
        have p1 : pOk (ms_u (sAt (t_bl τ) (pA (t_bl τ) + 1)) 21 0 (t_bl τ 21 0 + 1)) := by
          have hz2 := zN_s (x := t_bl τ 21 0) (b := 120) ⟨d1.2.2.2.1, by have := d1.2.2.2.2; have := d1.n; have := d1.2.2.1; omega⟩ (by decide)
          have eA9 : pA (ms_u (sAt (t_bl τ) (pA (t_bl τ) + 1)) 21 0 (t_bl τ 21 0 + 1)) = pA (t_bl τ) + 1 := sAt_A (σ := t_bl τ) (by have := d1.n; omega)
          have f9 : ms_u (sAt (t_bl τ) (pA (t_bl τ) + 1)) 21 0 (t_bl τ 21 0 + 1) 21 0 = t_bl τ 21 0 + 1 := rfl
          refine ⟨mInv_u (mInv_u d1.1 (by decide)) (by decide), by rw [eA9]; rfl, by rw [eA9]; exact e5, ?_, ?_⟩
          · rw [f9, hz2.2]; exact hz2.1
          · rw [f9, hz2.2, eA9, d3 21 (by decide), s21]; omega
        have eAA : pA (t_bl (sAt υ (pA υ + 1))) = pA (t_bl (ms_u (sAt (t_bl τ) (pA (t_bl τ) + 1)) 21 0 (t_bl τ 21 0 + 1))) := by
          refine bl_at p1 k3 (by rw [sAt_n (by decide), ms_u_n (by decide), sAt_n (by decide)]; exact f17) (by rw [sAt_n (by decide), ms_u_n (by decide), sAt_n (by decide)]; exact f18) ?_
          show pA (sAt υ _) = pA (sAt (t_bl τ) _)
          rw [sAt_A (by have := t2.n; omega), sAt_A (by have := d1.n; omega), tA]
        have e2A : pA (t_bl (t_bl (ms_u (sAt (t_bl τ) (pA (t_bl τ) + 1)) 21 0 (t_bl τ 21 0 + 1)))) = pA (t_bl (ms_u (sAt (t_bl τ) (pA (t_bl τ) + 1)) 21 0 (t_bl τ 21 0 + 1))) := bl_2 p1
        have y21 : ∀ (α : MS) c v, ms_u (ms_u α 19 (zN (υ 21 0)) c) 21 0 v 21 = upd (α 21) 0 v := fun α c v => by rw [ms_u_k, ms_u_n (by decide)]
        refine ⟨⟨v1, x1, ?_, ?_, ?_, ?_⟩, ?_, ?_⟩
        · exact (x4 17 (by decide)).trans (f17.trans (v4 17 (by decide) (by decide)).symm)
        · exact (x4 18 (by decide)).trans (f18.trans (v4 18 (by decide) (by decide)).symm)
        · obtain ⟨-, -, q3⟩ := pOk_bl p1
          show ms_u (ms_u (t_bl (sAt υ (pA υ + 1))) 19 (zN (υ 21 0)) (σ 17 (pA σ))) 21 0 (υ 21 0 + 1) 21 0 = t_bl (ms_u (sAt (t_bl τ) (pA (t_bl τ) + 1)) 21 0 (t_bl τ 21 0 + 1)) 21 0
          rw [q3 21 (by decide)]
          show υ 21 0 + 1 = t_bl τ 21 0 + 1
          rw [f21]
        · show pA (t_bl (sAt υ (pA υ + 1))) = _
          exact eAA.trans e2A.symm
        · exact eAA
        · obtain ⟨-, -, q3⟩ := pOk_bl p1
          intro k hk
          have hk : k < zN (t_bl (ms_u (sAt (t_bl τ) (pA (t_bl τ) + 1)) 21 0 (t_bl τ 21 0 + 1)) 21 0) := hk
          have hk' : k < zN (σ 21 0) + 1 := by
            have e9 : t_bl (ms_u (sAt (t_bl τ) (pA (t_bl τ) + 1)) 21 0 (t_bl τ 21 0 + 1)) 21 0 = σ 21 0 + 1 := by
              rw [q3 21 (by decide), ms_u_k]
              show t_bl τ 21 0 + 1 = _
              rw [d3 21 (by decide), s21]
            have : zN (t_bl (ms_u (sAt (t_bl τ) (pA (t_bl τ) + 1)) 21 0 (t_bl τ 21 0 + 1)) 21 0) = zN (σ 21 0) + 1 := by rw [e9]; exact hz.2
            omega
          have g19 : t_bl (ms_u (sAt (t_bl τ) (pA (t_bl τ) + 1)) 21 0 (t_bl τ 21 0 + 1)) 19 = upd (σ 19) (zN (σ 21 0)) (σ 17 (pA σ)) := by
            rw [q3 19 (by decide), ms_u_n (by decide), sAt_n (by decide), d3 19 (by decide), s19]
            unfold t_beg
            rw [sAt_n (by decide), ms_u_k]
          have g20 : t_bl (ms_u (sAt (t_bl τ) (pA (t_bl τ) + 1)) 21 0 (t_bl τ 21 0 + 1)) 20 = τ 20 := by
            rw [q3 20 (by decide), ms_u_n (by decide), sAt_n (by decide), d3 20 (by decide)]
          have k19 : ms_u (ms_u (t_bl (sAt υ (pA υ + 1))) 19 (zN (υ 21 0)) (σ 17 (pA σ))) 21 0 (υ 21 0 + 1) 19 = upd (ψ 19) (zN (σ 21 0)) (σ 17 (pA σ)) := by
            rw [ms_u_n (by decide), ms_u_k, w3 19 (by decide), sAt_n (by decide), u19, f21, d3 21 (by decide), s21]
          have k20 : ms_u (ms_u (t_bl (sAt υ (pA υ + 1))) 19 (zN (υ 21 0)) (σ 17 (pA σ))) 21 0 (υ 21 0 + 1) 20 = υ 20 := by
            rw [ms_u_n (by decide), ms_u_n (by decide), w3 20 (by decide), sAt_n (by decide)]
          show ms_u (ms_u (t_bl (sAt υ (pA υ + 1))) 19 (zN (υ 21 0)) (σ 17 (pA σ))) 21 0 (υ 21 0 + 1) 19 k = t_bl (ms_u (sAt (t_bl τ) (pA (t_bl τ) + 1)) 21 0 (t_bl τ 21 0 + 1)) 19 k ∧ ∃ m, mny (t_bl (ms_u (sAt (t_bl τ) (pA (t_bl τ) + 1)) 21 0 (t_bl τ 21 0 + 1)) 19 k) = some m ∧ ∀ j, j < m → ms_u (ms_u (t_bl (sAt υ (pA υ + 1))) 19 (zN (υ 21 0)) (σ 17 (pA σ))) 21 0 (υ 21 0 + 1) 20 (3 * k + j) = t_bl (ms_u (sAt (t_bl τ) (pA (t_bl τ) + 1)) 21 0 (t_bl τ 21 0 + 1)) 20 (3 * k + j)
          rw [g19, g20, k19, k20]
          unfold upd
          by_cases e9 : k = zN (σ 21 0)
          · rw [if_pos e9, if_pos e9]
            refine ⟨rfl, m, hm, fun j hj => ?_⟩
            rw [e9]
            exact r2 j (Nat.zero_le _) (by omega)
          · rw [if_neg e9, if_neg e9]
            obtain ⟨o1, m', hm', o2⟩ := hag k (by omega)
            refine ⟨o1, m', hm', fun j hj => ?_⟩
            have hj3 := mny_3 hm'
            have := g4 (3 * k + j) (by omega)
            rw [this.1, this.2]
            have e30 : t_bl (sAt ψ (pA σ + 1)) 20 = ψ 20 := by rw [c3 20 (by decide), sAt_n (by decide)]
            have e31 : t_beg σ 20 = σ 20 := b3 20 (by decide) (by decide)
            rw [e30, e31]
            exact o2 j hj
      · rw [if_neg z, if_neg (by rw [hne, decide_eq_false z]; decide)]
        exact ⟨rfl, fun q => Bool.noConfusion (show false = true from q), fun _ => tA⟩
    · rw [if_neg q, if_neg q]
      have q' : (t_nums (3 * zN (σ 21 0)) m 0 (t_beg σ)).1 = false := by simpa using q
      exact ⟨rfl, fun z => Bool.noConfusion (show false = true from z), fun _ => g3 q'⟩
theorem sim_all : ∀ (f : Nat) (σ ψ : MS), rC σ ψ → pA σ < pN σ → pN σ ≤ pA σ + f → (c_all (f + 1) ψ).1 = (t_all f σ).1 ∧ ((t_all f σ).1 = true → rC (t_all f σ).2 (c_all (f + 1) ψ).2) ∧ ((t_all f σ).1 = false → pA (c_all (f + 1) ψ).2 = pA (t_all f σ).2)
  | 0, σ, ψ, h, h1, h2 => absurd h1 (by omega)
  | f + 1, σ, ψ, h, h1, h2 => by
    obtain ⟨s1, s2, s3⟩ := sim_cmd h h1
    obtain ⟨c1, c2, c3, c4⟩ := cmd_ok h.1.1 h1
    have eN : pN (t_cmd σ).2 = pN σ := by unfold pN; rw [c4 18 (by decide)]
    rw [c_all, t_all, if_pos h1, s1]
    by_cases q : (t_cmd σ).1 = true
    · rw [if_pos q, if_pos q]
      have r := s2 q
      have eNψ : pN (c_cmd ψ).2 = pN (t_cmd σ).2 := by unfold pN; rw [r.1.2.2.2.1]
      rw [eNψ, r.2.1]
      have h3 := c3 q
      by_cases z : pA (t_cmd σ).2 < pN (t_cmd σ).2
      · rw [if_pos z]
        exact sim_all f _ _ r z (by omega)
      · rw [if_neg z]
        have e : t_all f (t_cmd σ).2 = (true, (t_cmd σ).2) := by
          cases f with
          | zero => rfl
          | succ f => rw [t_all, if_neg z]
        rw [e]
        exact ⟨rfl, fun _ => r, fun q => Bool.noConfusion (show true = false from q)⟩
    · rw [if_neg q, if_neg q]
      have q' : (t_cmd σ).1 = false := by simpa using q
      exact ⟨s1, fun z => absurd z q, fun _ => s3 q'⟩
theorem call_ok : ∀ (f : Nat) (ψ : MS), pOk ψ → pOk (c_all f ψ).2 ∧ ∀ j, j < 19 → (c_all f ψ).2 j = ψ j
  | 0, ψ, h => ⟨h, fun _ _ => rfl⟩
  | f + 1, ψ, h => by
    obtain ⟨c1, c2, c3, c4⟩ := ccmd_ok h
    unfold c_all
    split
    · split
      · obtain ⟨e1, e2⟩ := call_ok f _ c1
        exact ⟨e1, fun j hj => (e2 j hj).trans (c4 j hj)⟩
      · exact ⟨c1, c4⟩
    · exact ⟨c1, c4⟩
/-- the whole parse -/
theorem sim_par {σ ψ : MS} (hI : mInv σ) (hJ : mInv ψ) (e17 : ψ 17 = σ 17) (e18 : ψ 18 = σ 18) : (c_par ψ).1 = (t_read σ).1 ∧ ((t_read σ).1 = true → rC (t_read σ).2 (c_par ψ).2) ∧ ((t_read σ).1 = false → (c_par ψ).2 22 0 = (t_read σ).2 22 0) := by
  obtain ⟨i1, i2⟩ := ini_ok hI
  obtain ⟨j1, j2⟩ := ini_ok hJ
  have x1 : pOk (ms_u (ms_u σ 22 0 0) 21 0 0) := ⟨mInv_u (mInv_u hI (by decide)) (by decide), rfl, Nat.zero_le _, rfl, Nat.le_refl _⟩
  have x2 : pOk (ms_u (ms_u ψ 22 0 0) 21 0 0) := ⟨mInv_u (mInv_u hJ (by decide)) (by decide), rfl, Nat.zero_le _, rfl, Nat.le_refl _⟩
  have eA : pA (t_ini ψ) = pA (t_ini σ) := bl_at x1 x2 e17 e18 rfl
  have eN : pN (t_ini σ) = pN σ := by unfold pN; rw [i2 18 (by decide)]
  have eNψ : pN ψ = pN σ := by unfold pN; rw [e18]
  have z21 : t_ini σ 21 0 = 0 := by
    show t_bl (ms_u (ms_u σ 22 0 0) 21 0 0) 21 0 = 0
    rw [(pOk_bl x1).2.2 21 (by decide), ms_u_k]
    exact if_pos rfl
  have w21 : t_ini ψ 21 0 = 0 := by
    show t_bl (ms_u (ms_u ψ 22 0 0) 21 0 0) 21 0 = 0
    rw [(pOk_bl x2).2.2 21 (by decide), ms_u_k]
    exact if_pos rfl
  have r : rC (t_ini σ) (t_ini ψ) := by
    refine ⟨⟨i1, j1, ?_, ?_, ?_, ?_⟩, eA, fun k hk => ?_⟩
    · rw [j2 17 (by decide), i2 17 (by decide)]; exact e17
    · rw [j2 18 (by decide), i2 18 (by decide)]; exact e18
    · rw [z21, w21]
    · exact eA.trans (bl_2 x1).symm
    · rw [z21] at hk
      exact absurd hk (Nat.not_lt_zero _)
  have key : (c_par ψ).1 = (t_read σ).1 ∧ ((t_read σ).1 = true → rC (t_read σ).2 (c_par ψ).2) ∧ ((t_read σ).1 = false → pA (c_par ψ).2 = pA (t_read σ).2) := by
    unfold c_par t_read
    rw [eNψ]
    by_cases z : pA (t_ini σ) < pN (t_ini σ)
    · rw [if_pos z]
      exact sim_all (pN σ) _ _ r z (by omega)
    · rw [if_neg z]
      have hb : bHere (t_ini ψ) = -1 := by
        unfold bHere
        rw [if_neg (by rw [eA]; unfold pN at *; rw [j2 18 (by decide), e18, ← i2 18 (by decide)]; exact z)]
      have ec : c_cmd (t_ini ψ) = (false, t_ini ψ) := by
        unfold c_cmd
        rw [hb]
        rfl
      rw [c_all, ec, if_neg (fun q => Bool.noConfusion (show false = true from q))]
      exact ⟨rfl, fun q => Bool.noConfusion (show false = true from q), fun _ => eA⟩
  refine ⟨key.1, key.2.1, fun q => ?_⟩
  have a1 := (read_ok hI).1.2.1
  have a2 := (call_ok (pN ψ + 1) _ j1).1.2.1
  have a2 : (c_par ψ).2 22 0 = nI (pA (c_par ψ).2) := a2
  rw [a1, a2, key.2.2 q]
