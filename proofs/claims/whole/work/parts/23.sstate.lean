/-! the Script: its object and three rows laid over a heap; its numbers in rows 17 to 22 of a table, as the reference's -/
def skH (G : GG) (h : Hp) (o x l r : Nat) (ψ : MS) : Hp := fun a => if a = o then some (.inr (4, [.ref x, .int (ψ 18 0), .ref l, .ref r, .int (ψ 21 0), .int (ψ 22 0)])) else if a = x then some (.inl (G.2.1 0, 120, .inl (ψ 17))) else if a = l then some (.inl (G.2.1 0, 60, .inl (ψ 19))) else if a = r then some (.inl (G.2.1 0, 180, .inl (ψ 20))) else h a
section SkRows
variable {G : GG} {h : Hp} {o x l r : Nat} {ψ : MS}
theorem sk_o : skH G h o x l r ψ o = some (.inr (4, [.ref x, .int (ψ 18 0), .ref l, .ref r, .int (ψ 21 0), .int (ψ 22 0)])) := if_pos rfl
theorem sk_x (hD : d4 o x l r) : skH G h o x l r ψ x = some (.inl (G.2.1 0, 120, .inl (ψ 17))) := by
  unfold skH
  rw [if_neg hD.1, if_pos rfl]
theorem sk_l (hD : d4 o x l r) : skH G h o x l r ψ l = some (.inl (G.2.1 0, 60, .inl (ψ 19))) := by
  unfold skH
  rw [if_neg hD.2.1, if_neg hD.2.2.2.1, if_pos rfl]
theorem sk_r (hD : d4 o x l r) : skH G h o x l r ψ r = some (.inl (G.2.1 0, 180, .inl (ψ 20))) := by
  unfold skH
  rw [if_neg hD.2.2.1, if_neg hD.2.2.2.2.1, if_neg hD.2.2.2.2.2, if_pos rfl]
theorem sk_ot {a : Nat} (h1 : a ≠ o) (h2 : a ≠ x) (h3 : a ≠ l) (h4 : a ≠ r) : skH G h o x l r ψ a = h a := by
  unfold skH
  rw [if_neg h1, if_neg h2, if_neg h3, if_neg h4]
theorem sk_self (h1 : h o = some (.inr (4, [.ref x, .int (ψ 18 0), .ref l, .ref r, .int (ψ 21 0), .int (ψ 22 0)]))) (h2 : h x = some (.inl (G.2.1 0, 120, .inl (ψ 17)))) (h3 : h l = some (.inl (G.2.1 0, 60, .inl (ψ 19)))) (h4 : h r = some (.inl (G.2.1 0, 180, .inl (ψ 20)))) : skH G h o x l r ψ = h := by
  funext a
  unfold skH
  split
  · next q => rw [q, h1]
  · split
    · next q => rw [q, h2]
    · split
      · next q => rw [q, h3]
      · split
        · next q => rw [q, h4]
        · rfl
variable {X : State → Prop} {M : MI} {d bc bs : Nat} {pc : Nat} {lv : List (Nat × Value)} {st : List Value} {Q : Option Value → Hp → Prop}
theorem sk_st0 {i v : Int32} {pc' : Nat} (hd : decode M.2.1 pc = .ok (.iastore, 1)) (hD : d4 o x l r) (k : Nat) (hi : i = nI k) (hk : k < 120) (hp : pc + 1 = pc') (kk : bs_B G X M d bc bs (skH G h o x l r (ms_u ψ 17 k v)) pc' lv st Q) : bs_B G X M d bc bs (skH G h o x l r ψ) pc lv (.int v :: .int i :: .ref x :: st) Q := by
  refine bs_ist hd (sk_x hD) k hi ⟨hk, by decide⟩ hp ?_
  have e : bs_set (skH G h o x l r ψ) x (.inl (G.2.1 0, 120, .inl (upd (ψ 17) k v))) = skH G h o x l r (ms_u ψ 17 k v) := by
    funext a
    by_cases ha : a = x
    · subst ha
      rw [bs_set_self, sk_x hD, ms_u_k]
    · rw [bs_set_ne ha]
      unfold skH
      rw [ms_u_n (σ := ψ) (k := 17) (k' := 18) (by decide), ms_u_n (σ := ψ) (k := 17) (k' := 19) (by decide), ms_u_n (σ := ψ) (k := 17) (k' := 20) (by decide), ms_u_n (σ := ψ) (k := 17) (k' := 21) (by decide), ms_u_n (σ := ψ) (k := 17) (k' := 22) (by decide), if_neg ha, if_neg ha]
  rw [e]
  exact kk
theorem sk_st2 {i v : Int32} {pc' : Nat} (hd : decode M.2.1 pc = .ok (.iastore, 1)) (hD : d4 o x l r) (k : Nat) (hi : i = nI k) (hk : k < 60) (hp : pc + 1 = pc') (kk : bs_B G X M d bc bs (skH G h o x l r (ms_u ψ 19 k v)) pc' lv st Q) : bs_B G X M d bc bs (skH G h o x l r ψ) pc lv (.int v :: .int i :: .ref l :: st) Q := by
  refine bs_ist hd (sk_l hD) k hi ⟨hk, by decide⟩ hp ?_
  have e : bs_set (skH G h o x l r ψ) l (.inl (G.2.1 0, 60, .inl (upd (ψ 19) k v))) = skH G h o x l r (ms_u ψ 19 k v) := by
    funext a
    by_cases ha : a = l
    · subst ha
      rw [bs_set_self, sk_l hD, ms_u_k]
    · rw [bs_set_ne ha]
      unfold skH
      rw [ms_u_n (σ := ψ) (k := 19) (k' := 17) (by decide), ms_u_n (σ := ψ) (k := 19) (k' := 18) (by decide), ms_u_n (σ := ψ) (k := 19) (k' := 20) (by decide), ms_u_n (σ := ψ) (k := 19) (k' := 21) (by decide), ms_u_n (σ := ψ) (k := 19) (k' := 22) (by decide), if_neg ha, if_neg ha]
  rw [e]
  exact kk
theorem sk_st3 {i v : Int32} {pc' : Nat} (hd : decode M.2.1 pc = .ok (.iastore, 1)) (hD : d4 o x l r) (k : Nat) (hi : i = nI k) (hk : k < 180) (hp : pc + 1 = pc') (kk : bs_B G X M d bc bs (skH G h o x l r (ms_u ψ 20 k v)) pc' lv st Q) : bs_B G X M d bc bs (skH G h o x l r ψ) pc lv (.int v :: .int i :: .ref r :: st) Q := by
  refine bs_ist hd (sk_r hD) k hi ⟨hk, by decide⟩ hp ?_
  have e : bs_set (skH G h o x l r ψ) r (.inl (G.2.1 0, 180, .inl (upd (ψ 20) k v))) = skH G h o x l r (ms_u ψ 20 k v) := by
    funext a
    by_cases ha : a = r
    · subst ha
      rw [bs_set_self, sk_r hD, ms_u_k]
    · rw [bs_set_ne ha]
      unfold skH
      rw [ms_u_n (σ := ψ) (k := 20) (k' := 17) (by decide), ms_u_n (σ := ψ) (k := 20) (k' := 18) (by decide), ms_u_n (σ := ψ) (k := 20) (k' := 19) (by decide), ms_u_n (σ := ψ) (k := 20) (k' := 21) (by decide), ms_u_n (σ := ψ) (k := 20) (k' := 22) (by decide), if_neg ha, if_neg ha]
  rw [e]
  exact kk
theorem sk_pt1 {idx : Nat} {v : Int32} {pc' : Nat} (hl : bs_FL M.1.cls idx 4 1 .int false) (hd : decode M.2.1 pc = .ok (.putfield idx, 3)) (hp : pc + 3 = pc') (kk : bs_B G X M d bc bs (skH G h o x l r (ms_u ψ 18 0 v)) pc' lv st Q) : bs_B G X M d bc bs (skH G h o x l r ψ) pc lv (.int v :: .ref o :: st) Q := by
  refine bs_putf hl hd sk_o rfl rfl rfl hp ?_
  have e : bs_set (skH G h o x l r ψ) o (.inr (4, [.ref x, .int v, .ref l, .ref r, .int (ψ 21 0), .int (ψ 22 0)])) = skH G h o x l r (ms_u ψ 18 0 v) := by
    funext a
    by_cases ha : a = o
    · subst ha
      rw [bs_set_self, sk_o]
      rfl
    · rw [bs_set_ne ha]
      unfold skH
      rw [if_neg ha, if_neg ha, ms_u_n (σ := ψ) (k := 18) (k' := 17) (by decide), ms_u_n (σ := ψ) (k := 18) (k' := 19) (by decide), ms_u_n (σ := ψ) (k := 18) (k' := 20) (by decide)]
  show bs_B G X M d bc bs (bs_set _ _ (.inr (4, [.ref x, .int v, .ref l, .ref r, .int (ψ 21 0), .int (ψ 22 0)]))) pc' lv st Q
  rw [e]
  exact kk
theorem sk_pt4 {idx : Nat} {v : Int32} {pc' : Nat} (hl : bs_FL M.1.cls idx 4 4 .int false) (hd : decode M.2.1 pc = .ok (.putfield idx, 3)) (hp : pc + 3 = pc') (kk : bs_B G X M d bc bs (skH G h o x l r (ms_u ψ 21 0 v)) pc' lv st Q) : bs_B G X M d bc bs (skH G h o x l r ψ) pc lv (.int v :: .ref o :: st) Q := by
  refine bs_putf hl hd sk_o rfl rfl rfl hp ?_
  have e : bs_set (skH G h o x l r ψ) o (.inr (4, [.ref x, .int (ψ 18 0), .ref l, .ref r, .int v, .int (ψ 22 0)])) = skH G h o x l r (ms_u ψ 21 0 v) := by
    funext a
    by_cases ha : a = o
    · subst ha
      rw [bs_set_self, sk_o]
      rfl
    · rw [bs_set_ne ha]
      unfold skH
      rw [if_neg ha, if_neg ha, ms_u_n (σ := ψ) (k := 21) (k' := 17) (by decide), ms_u_n (σ := ψ) (k := 21) (k' := 19) (by decide), ms_u_n (σ := ψ) (k := 21) (k' := 20) (by decide)]
  show bs_B G X M d bc bs (bs_set _ _ (.inr (4, [.ref x, .int (ψ 18 0), .ref l, .ref r, .int v, .int (ψ 22 0)]))) pc' lv st Q
  rw [e]
  exact kk
theorem sk_pt5 {idx : Nat} {v : Int32} {pc' : Nat} (hl : bs_FL M.1.cls idx 4 5 .int false) (hd : decode M.2.1 pc = .ok (.putfield idx, 3)) (hp : pc + 3 = pc') (kk : bs_B G X M d bc bs (skH G h o x l r (ms_u ψ 22 0 v)) pc' lv st Q) : bs_B G X M d bc bs (skH G h o x l r ψ) pc lv (.int v :: .ref o :: st) Q := by
  refine bs_putf hl hd sk_o rfl rfl rfl hp ?_
  have e : bs_set (skH G h o x l r ψ) o (.inr (4, [.ref x, .int (ψ 18 0), .ref l, .ref r, .int (ψ 21 0), .int v])) = skH G h o x l r (ms_u ψ 22 0 v) := by
    funext a
    by_cases ha : a = o
    · subst ha
      rw [bs_set_self, sk_o]
      rfl
    · rw [bs_set_ne ha]
      unfold skH
      rw [if_neg ha, if_neg ha, ms_u_n (σ := ψ) (k := 22) (k' := 17) (by decide), ms_u_n (σ := ψ) (k := 22) (k' := 19) (by decide), ms_u_n (σ := ψ) (k := 22) (k' := 20) (by decide)]
  show bs_B G X M d bc bs (bs_set _ _ (.inr (4, [.ref x, .int (ψ 18 0), .ref l, .ref r, .int (ψ 21 0), .int v]))) pc' lv st Q
  rw [e]
  exact kk
end SkRows
/-! the parse as the class does it -/
def bHere (ψ : MS) : Int32 := if pA ψ < pN ψ then ψ 17 (pA ψ) else -1
def c_arg (ψ : MS) (to : Nat) : Bool × MS :=
  if dg ψ (pA ψ) = true then (if dg ψ (pA ψ + 1) = true then (if dg ψ (pA ψ + 2) = true then (false, sAt ψ (pA ψ + 2)) else (true, ms_u (t_bl (sAt ψ (pA ψ + 2))) 20 to (10 * (ψ 17 (pA ψ) - 48) + ψ 17 (pA ψ + 1) - 48))) else (true, ms_u (t_bl (sAt ψ (pA ψ + 1))) 20 to (ψ 17 (pA ψ) - 48))) else (false, ψ)
def c_args (base : Nat) : Nat → Nat → MS → Bool × MS
  | 0, _, ψ => (true, ψ)
  | f + 1, k, ψ => if (c_arg ψ (base + k)).1 = true then c_args base f (k + 1) (c_arg ψ (base + k)).2 else (false, (c_arg ψ (base + k)).2)
def c_end (ψ : MS) (c : Int32) : Bool × MS := if bHere ψ = 59 then (true, ms_u (ms_u (t_bl (sAt ψ (pA ψ + 1))) 19 (zN (ψ 21 0)) c) 21 0 (ψ 21 0 + 1)) else (false, ψ)
def c_cmd (ψ : MS) : Bool × MS := match mny (bHere ψ) with
  | none => (false, ψ)
  | some m => if (c_args (3 * zN (ψ 21 0)) m 0 (t_bl (sAt ψ (pA ψ + 1)))).1 = true then c_end (c_args (3 * zN (ψ 21 0)) m 0 (t_bl (sAt ψ (pA ψ + 1)))).2 (bHere ψ) else (false, (c_args (3 * zN (ψ 21 0)) m 0 (t_bl (sAt ψ (pA ψ + 1)))).2)
def c_all : Nat → MS → Bool × MS
  | 0, ψ => (true, ψ)
  | f + 1, ψ => if (c_cmd ψ).1 = true then (if pA (c_cmd ψ).2 < pN (c_cmd ψ).2 then c_all f (c_cmd ψ).2 else (true, (c_cmd ψ).2)) else c_cmd ψ
def c_par (ψ : MS) : Bool × MS := c_all (pN ψ + 1) (t_ini ψ)
