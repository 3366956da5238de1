/-! the reference's state: its int fields and rows as one table of numbers (field, place), its hash; and its heap: a heap h0 with the reference's cells laid over it -/
abbrev MS : Type := Nat → Nat → Int32
def ms_u (σ : MS) (k i : Nat) (x : Int32) : MS := fun k' => if k' = k then upd (σ k) i x else σ k'
def mfs (A : Nat → Nat) (σ : MS) (hs : Int64) : List Value := [.int (σ 0 0), .ref (A 1), .ref (A 2), .ref (A 3), .ref (A 4), .ref (A 5), .ref (A 6), .ref (A 7), .int (σ 8 0), .ref (A 9), .ref (A 10), .int (σ 11 0), .int (σ 12 0), .int (σ 13 0), .int (σ 14 0), .ref (A 15), .int (σ 16 0), .ref (A 17), .int (σ 18 0), .ref (A 19), .ref (A 20), .int (σ 21 0), .int (σ 22 0), .long hs]
def mln (k : Nat) : Nat := match k with
  | 1 => 10
  | 2 => 10
  | 3 => 80
  | 4 => 80
  | 5 => 960
  | 6 => 960
  | 7 => 960
  | 9 => 60
  | 10 => 60
  | 15 => 3
  | 17 => 120
  | 19 => 60
  | 20 => 180
  | _ => 0
def mLa : List Nat := [1, 2, 3, 4, 5, 6, 7, 9, 10, 15, 17, 19, 20]
def mLi : List Nat := [0, 8, 11, 12, 13, 14, 16, 18, 21, 22]
def mtk (k : Nat) : Nat := if k = 2 then 1 else 0
def mOk (y : Nat) (A : Nat → Nat) : Prop := (∀ k, k ∈ mLa → A k ≠ y) ∧ ∀ k, k ∈ mLa → ∀ k', k' ∈ mLa → A k = A k' → k = k'
def mix (A : Nat → Nat) (a : Nat) : Option Nat := mLa.find? (fun k => A k == a)
def mh (G : GG) (h0 : Hp) (y : Nat) (A : Nat → Nat) (σ : MS) (hs : Int64) : Hp := fun a => if a = y then some (.inr (6, mfs A σ hs)) else match mix A a with
  | some k => some (.inl (G.2.1 (mtk k), mln k, .inl (σ k)))
  | none => h0 a
section MhRows
variable {G : GG} {h0 : Hp} {y : Nat} {A : Nat → Nat} {σ : MS} {hs : Int64}
theorem mix_some {a k : Nat} (h : mix A a = some k) : k ∈ mLa ∧ A k = a := ⟨List.mem_of_find?_eq_some h, by have := List.find?_some h; simpa using this⟩
theorem mix_at (hA : mOk y A) {k : Nat} (hk : k ∈ mLa) : mix A (A k) = some k := by
  cases h : mix A (A k) with
  | none =>
    have := List.find?_eq_none.mp h k hk
    simp at this
  | some j =>
    obtain ⟨h1, h2⟩ := mix_some h
    rw [hA.2 j h1 k hk h2]
theorem mh_y : mh G h0 y A σ hs y = some (.inr (6, mfs A σ hs)) := if_pos rfl
theorem mh_a (hA : mOk y A) (k : Nat) (hk : mLa.contains k = true) : mh G h0 y A σ hs (A k) = some (.inl (G.2.1 (mtk k), mln k, .inl (σ k))) := by
  have hk' : k ∈ mLa := by simpa using hk
  unfold mh
  rw [if_neg (hA.1 k hk'), mix_at hA hk']
theorem mh_o {a : Nat} (h1 : a ≠ y) (h2 : ∀ k, k ∈ mLa → A k ≠ a) : mh G h0 y A σ hs a = h0 a := by
  unfold mh
  rw [if_neg h1]
  cases h : mix A a with
  | none => rfl
  | some k => exact absurd (mix_some h).2 (h2 k (mix_some h).1)
theorem ms_u_k {k i : Nat} {x : Int32} : ms_u σ k i x k = upd (σ k) i x := if_pos rfl
theorem ms_u_n {k i k' : Nat} {x : Int32} (h : k' ≠ k) : ms_u σ k i x k' = σ k' := if_neg h
theorem mfs_u {k i : Nat} {x : Int32} (hk : k ∈ mLa) : mfs A (ms_u σ k i x) hs = mfs A σ hs := by
  have h : ∀ j, j ∉ mLa → ms_u σ k i x j = σ j := fun j hj => ms_u_n (fun e => hj (e ▸ hk))
  unfold mfs
  rw [h 0 (by decide), h 8 (by decide), h 11 (by decide), h 12 (by decide), h 13 (by decide), h 14 (by decide), h 16 (by decide), h 18 (by decide), h 21 (by decide), h 22 (by decide)]
theorem mh_ast (hA : mOk y A) {k i : Nat} {x : Int32} (hk : k ∈ mLa) : bs_set (mh G h0 y A σ hs) (A k) (.inl (G.2.1 (mtk k), mln k, .inl (upd (σ k) i x))) = mh G h0 y A (ms_u σ k i x) hs := by
  funext a
  by_cases ha : a = A k
  · subst ha
    rw [bs_set_self]
    unfold mh
    rw [if_neg (hA.1 k hk), mix_at hA hk]
    show some _ = some _
    rw [ms_u_k]
  · rw [bs_set_ne ha]
    unfold mh
    by_cases hy : a = y
    · rw [if_pos hy, if_pos hy, mfs_u hk]
    · rw [if_neg hy, if_neg hy]
      cases h : mix A a with
      | none => rfl
      | some j =>
        have hj : j ≠ k := fun e => ha (by rw [← e]; exact (mix_some h).2.symm)
        show some _ = some _
        rw [ms_u_n hj]
theorem mh_put {k : Nat} {x : Int32} (hk : k ∈ mLi) : bs_set (mh G h0 y A σ hs) y (.inr (6, (mfs A σ hs).set k (.int x))) = mh G h0 y A (ms_u σ k 0 x) hs := by
  have hfs : (mfs A σ hs).set k (.int x) = mfs A (ms_u σ k 0 x) hs := by
    simp only [mLi, List.mem_cons, List.not_mem_nil, or_false] at hk
    rcases hk with rfl | rfl | rfl | rfl | rfl | rfl | rfl | rfl | rfl | rfl <;> rfl
  funext a
  by_cases ha : a = y
  · subst ha
    rw [bs_set_self, mh_y, hfs]
  · rw [bs_set_ne ha]
    unfold mh
    rw [if_neg ha, if_neg ha]
    cases h : mix A a with
    | none => rfl
    | some j =>
      have hj : j ≠ k := fun e => by
        have h1 := (mix_some h).1
        subst e
        revert h1 hk
        simp only [mLi, mLa, List.mem_cons, List.not_mem_nil, or_false]
        omega
      show some _ = some _
      rw [ms_u_n hj]
theorem mh_putl {v : Int64} : bs_set (mh G h0 y A σ hs) y (.inr (6, (mfs A σ hs).set 23 (.long v))) = mh G h0 y A σ v := by
  funext a
  by_cases ha : a = y
  · subst ha
    rw [bs_set_self, mh_y]
    rfl
  · rw [bs_set_ne ha]
    unfold mh
    rw [if_neg ha, if_neg ha]
variable {X : State → Prop} {M : MI} {d bc bs : Nat} {pc : Nat} {lv : List (Nat × Value)} {st : List Value} {Q : Option Value → Hp → Prop}
theorem bm_ald {k : Nat} {i : Int32} {pc' : Nat} (hd : decode M.2.1 pc = .ok (.iaload, 1)) (hA : mOk y A) (hk : mLa.contains k = true) (hz : mtk k = 0) (n : Nat) (hi : i = nI n) (hn : n < mln k) (hp : pc + 1 = pc') (kk : bs_B G X M d bc bs (mh G h0 y A σ hs) pc' lv (.int (σ k n) :: st) Q) : bs_B G X M d bc bs (mh G h0 y A σ hs) pc lv (.int i :: .ref (A k) :: st) Q := by
  subst hi
  have h1 := mh_a (G := G) (h0 := h0) (σ := σ) (hs := hs) hA k hk
  rw [hz] at h1
  have hlt : mln k < 2 ^ 31 := by unfold mln; split <;> decide
  refine bs_iald hd h1 (vp_in_nI hn hlt) hp ?_
  rw [nI_clamp (Nat.lt_trans hn hlt)]
  exact kk
theorem bm_zld {i : Int32} {pc' : Nat} (hd : decode M.2.1 pc = .ok (.baload, 1)) (hA : mOk y A) (n : Nat) (hi : i = nI n) (hn : n < 10) (hp : pc + 1 = pc') (kk : bs_B G X M d bc bs (mh G h0 y A σ hs) pc' lv (.int (σ 2 n) :: st) Q) : bs_B G X M d bc bs (mh G h0 y A σ hs) pc lv (.int i :: .ref (A 2) :: st) Q := by
  subst hi
  refine bs_zald hd (mh_a hA 2 rfl) (vp_in_nI hn (by decide)) hp ?_
  rw [nI_clamp (Nat.lt_trans hn (by decide))]
  exact kk
theorem bm_ast {k : Nat} {i x : Int32} {pc' : Nat} (hd : decode M.2.1 pc = .ok (.iastore, 1)) (hA : mOk y A) (hk : mLa.contains k = true) (hz : mtk k = 0) (n : Nat) (hi : i = nI n) (hn : n < mln k) (hp : pc + 1 = pc') (kk : bs_B G X M d bc bs (mh G h0 y A (ms_u σ k n x) hs) pc' lv st Q) : bs_B G X M d bc bs (mh G h0 y A σ hs) pc lv (.int x :: .int i :: .ref (A k) :: st) Q := by
  subst hi
  have h1 := mh_a (G := G) (h0 := h0) (σ := σ) (hs := hs) hA k hk
  rw [hz] at h1
  have hlt : mln k < 2 ^ 31 := by unfold mln; split <;> decide
  refine bs_iast hd h1 (vp_in_nI hn hlt) hp ?_
  rw [nI_clamp (Nat.lt_trans hn hlt)]
  have h2 := mh_ast (G := G) (h0 := h0) (hs := hs) (σ := σ) hA (k := k) (i := n) (x := x) (by simpa using hk)
  rw [hz] at h2
  rw [h2]
  exact kk
theorem bm_zst {i x : Int32} {pc' : Nat} (hd : decode M.2.1 pc = .ok (.bastore, 1)) (hA : mOk y A) (n : Nat) (hi : i = nI n) (hn : n < 10) (hx : vp_nar .boolean x = x) (hp : pc + 1 = pc') (kk : bs_B G X M d bc bs (mh G h0 y A (ms_u σ 2 n x) hs) pc' lv st Q) : bs_B G X M d bc bs (mh G h0 y A σ hs) pc lv (.int x :: .int i :: .ref (A 2) :: st) Q := by
  subst hi
  refine bs_zast hd (mh_a hA 2 rfl) (vp_in_nI hn (by decide)) hp ?_
  rw [nI_clamp (Nat.lt_trans hn (by decide)), hx]
  have h2 := mh_ast (G := G) (h0 := h0) (hs := hs) (σ := σ) hA (k := 2) (i := n) (x := x) (by decide)
  have h3 : mtk 2 = 1 := rfl
  rw [h3] at h2
  show bs_B G X M d bc bs (bs_set (mh G h0 y A σ hs) (A 2) (.inl (G.2.1 1, mln 2, .inl (upd (σ 2) n x)))) pc' lv st Q
  rw [h2]
  exact kk
theorem bm_put {idx k : Nat} {ty : FieldType} {x : Int32} {pc' : Nat} (hl : bs_FL M.1.cls idx 6 k ty false) (hd : decode M.2.1 pc = .ok (.putfield idx, 3)) (hk : mLi.contains k = true) (hn : narrow ty (.int x) = .int x) (hfit : fits ty (.int x) = true) (hp : pc + 3 = pc') (kk : bs_B G X M d bc bs (mh G h0 y A (ms_u σ k 0 x) hs) pc' lv st Q) : bs_B G X M d bc bs (mh G h0 y A σ hs) pc lv (.int x :: .ref y :: st) Q := by
  have hk' : k ∈ mLi := by simpa using hk
  refine bs_putf hl hd mh_y hn hfit ?_ hp ?_
  · simp only [mLi, List.mem_cons, List.not_mem_nil, or_false] at hk'
    rcases hk' with rfl | rfl | rfl | rfl | rfl | rfl | rfl | rfl | rfl | rfl <;> rfl
  · rw [mh_put hk']
    exact kk
theorem bm_putl {idx : Nat} {x : Int64} {pc' : Nat} (hl : bs_FL M.1.cls idx 6 23 .long false) (hd : decode M.2.1 pc = .ok (.putfield idx, 3)) (hp : pc + 3 = pc') (kk : bs_B G X M d bc bs (mh G h0 y A σ x) pc' lv st Q) : bs_B G X M d bc bs (mh G h0 y A σ hs) pc lv (.long x :: .ref y :: st) Q := by
  refine bs_putf hl hd mh_y rfl rfl rfl hp ?_
  rw [mh_putl]
  exact kk
end MhRows
