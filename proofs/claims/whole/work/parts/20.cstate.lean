/-! the class's cells: a Cell with its three rows, the Calls with their row, laid over a heap -/
section IldRows
variable {G : GG} {X : State → Prop} {M : MI} {d bc bs : Nat} {h : Hp} {pc : Nat} {lv : List (Nat × Value)} {st : List Value} {Q : Option Value → Hp → Prop}
theorem bs_ild {a N : Nat} {f : Nat → Int32} {i : Int32} {pc' : Nat} (hd : decode M.2.1 pc = .ok (.iaload, 1)) (hh : h a = some (.inl (G.2.1 0, N, .inl f))) (n : Nat) (hi : i = nI n) (hn : n < N ∧ N < 1000) (hp : pc + 1 = pc') (kk : bs_B G X M d bc bs h pc' lv (.int (f n) :: st) Q) : bs_B G X M d bc bs h pc lv (.int i :: .ref a :: st) Q := by
  subst hi
  refine bs_iald hd hh (vp_in_nI hn.1 (by omega)) hp ?_
  rw [nI_clamp (by omega)]
  exact kk
theorem bs_ist {a N : Nat} {f : Nat → Int32} {i x : Int32} {pc' : Nat} (hd : decode M.2.1 pc = .ok (.iastore, 1)) (hh : h a = some (.inl (G.2.1 0, N, .inl f))) (n : Nat) (hi : i = nI n) (hn : n < N ∧ N < 1000) (hp : pc + 1 = pc') (kk : bs_B G X M d bc bs (bs_set h a (.inl (G.2.1 0, N, .inl (upd f n x)))) pc' lv st Q) : bs_B G X M d bc bs h pc lv (.int x :: .int i :: .ref a :: st) Q := by
  subst hi
  refine bs_iast hd hh (vp_in_nI hn.1 (by omega)) hp ?_
  rw [nI_clamp (by omega)]
  exact kk
theorem bs_rld {a N t : Nat} {f : Nat → Option Nat} {i : Int32} {pc' : Nat} (hd : decode M.2.1 pc = .ok (.aaload, 1)) (hh : h a = some (.inl (G.2.1 t, N, .inr (.inr (.inr (.inr f)))))) (ht : t = 2 ∨ t = 3 ∨ t = 4) (n : Nat) (hi : i = nI n) (hn : n < N ∧ N < 1000) (b : Nat) (hb : f n = some b) (hp : pc + 1 = pc') (kk : bs_B G X M d bc bs h pc' lv (.ref b :: st) Q) : bs_B G X M d bc bs h pc lv (.int i :: .ref a :: st) Q := by
  subst hi
  refine bs_aald hd hh ht (vp_in_nI hn.1 (by omega)) (v := .ref b) (by rw [nI_clamp (by omega), hb]; rfl) hp kk
end IldRows
def ce4 (G : GG) (h : Hp) (e t p q : Nat) (tg pm pr : Nat → Int32) (n v : Int32) : Hp := fun a => if a = e then some (.inr (2, [.ref t, .ref p, .ref q, .int n, .int v])) else if a = t then some (.inl (G.2.1 0, 12, .inl tg)) else if a = p then some (.inl (G.2.1 0, 12, .inl pm)) else if a = q then some (.inl (G.2.1 0, 12, .inl pr)) else h a
def d4 (e t p q : Nat) : Prop := t ≠ e ∧ p ≠ e ∧ q ≠ e ∧ p ≠ t ∧ q ≠ t ∧ q ≠ p
section CeRows
variable {G : GG} {h : Hp} {e t p q : Nat} {tg pm pr : Nat → Int32} {n v : Int32}
theorem ce_e : ce4 G h e t p q tg pm pr n v e = some (.inr (2, [.ref t, .ref p, .ref q, .int n, .int v])) := if_pos rfl
theorem ce_t (hD : d4 e t p q) : ce4 G h e t p q tg pm pr n v t = some (.inl (G.2.1 0, 12, .inl tg)) := by
  unfold ce4
  rw [if_neg hD.1, if_pos rfl]
theorem ce_p (hD : d4 e t p q) : ce4 G h e t p q tg pm pr n v p = some (.inl (G.2.1 0, 12, .inl pm)) := by
  unfold ce4
  rw [if_neg hD.2.1, if_neg hD.2.2.2.1, if_pos rfl]
theorem ce_q (hD : d4 e t p q) : ce4 G h e t p q tg pm pr n v q = some (.inl (G.2.1 0, 12, .inl pr)) := by
  unfold ce4
  rw [if_neg hD.2.2.1, if_neg hD.2.2.2.2.1, if_neg hD.2.2.2.2.2, if_pos rfl]
theorem ce_o {a : Nat} (h1 : a ≠ e) (h2 : a ≠ t) (h3 : a ≠ p) (h4 : a ≠ q) : ce4 G h e t p q tg pm pr n v a = h a := by
  unfold ce4
  rw [if_neg h1, if_neg h2, if_neg h3, if_neg h4]
theorem ce_self (h1 : h e = some (.inr (2, [.ref t, .ref p, .ref q, .int n, .int v]))) (h2 : h t = some (.inl (G.2.1 0, 12, .inl tg))) (h3 : h p = some (.inl (G.2.1 0, 12, .inl pm))) (h4 : h q = some (.inl (G.2.1 0, 12, .inl pr))) : ce4 G h e t p q tg pm pr n v = h := by
  funext a
  unfold ce4
  split
  · next q => rw [q, h1]
  · split
    · next q => rw [q, h2]
    · split
      · next q => rw [q, h3]
      · split
        · next q => rw [q, h4]
        · rfl
variable {X : State → Prop} {M : MI} {d bc bs : Nat} {pc : Nat} {lv : List (Nat × Value)} {st : List Value} {Q : Option Value → Hp → Prop}
theorem ce_st0 {i x : Int32} {pc' : Nat} (hd : decode M.2.1 pc = .ok (.iastore, 1)) (hD : d4 e t p q) (k : Nat) (hi : i = nI k) (hk : k < 12) (hp : pc + 1 = pc') (kk : bs_B G X M d bc bs (ce4 G h e t p q (upd tg k x) pm pr n v) pc' lv st Q) : bs_B G X M d bc bs (ce4 G h e t p q tg pm pr n v) pc lv (.int x :: .int i :: .ref t :: st) Q := by
  refine bs_ist hd (ce_t hD) k hi ⟨hk, by decide⟩ hp ?_
  have e : bs_set (ce4 G h e t p q tg pm pr n v) t (.inl (G.2.1 0, 12, .inl (upd tg k x))) = ce4 G h e t p q (upd tg k x) pm pr n v := by
    funext a
    by_cases ha : a = t
    · subst ha; rw [bs_set_self, ce_t hD]
    · rw [bs_set_ne ha]; unfold ce4; rw [if_neg ha, if_neg ha]
  rw [e]
  exact kk
theorem ce_st1 {i x : Int32} {pc' : Nat} (hd : decode M.2.1 pc = .ok (.iastore, 1)) (hD : d4 e t p q) (k : Nat) (hi : i = nI k) (hk : k < 12) (hp : pc + 1 = pc') (kk : bs_B G X M d bc bs (ce4 G h e t p q tg (upd pm k x) pr n v) pc' lv st Q) : bs_B G X M d bc bs (ce4 G h e t p q tg pm pr n v) pc lv (.int x :: .int i :: .ref p :: st) Q := by
  refine bs_ist hd (ce_p hD) k hi ⟨hk, by decide⟩ hp ?_
  have e : bs_set (ce4 G h e t p q tg pm pr n v) p (.inl (G.2.1 0, 12, .inl (upd pm k x))) = ce4 G h e t p q tg (upd pm k x) pr n v := by
    funext a
    by_cases ha : a = p
    · subst ha; rw [bs_set_self, ce_p hD]
    · rw [bs_set_ne ha]; unfold ce4; rw [if_neg ha, if_neg ha]
  rw [e]
  exact kk
theorem ce_st2 {i x : Int32} {pc' : Nat} (hd : decode M.2.1 pc = .ok (.iastore, 1)) (hD : d4 e t p q) (k : Nat) (hi : i = nI k) (hk : k < 12) (hp : pc + 1 = pc') (kk : bs_B G X M d bc bs (ce4 G h e t p q tg pm (upd pr k x) n v) pc' lv st Q) : bs_B G X M d bc bs (ce4 G h e t p q tg pm pr n v) pc lv (.int x :: .int i :: .ref q :: st) Q := by
  refine bs_ist hd (ce_q hD) k hi ⟨hk, by decide⟩ hp ?_
  have e : bs_set (ce4 G h e t p q tg pm pr n v) q (.inl (G.2.1 0, 12, .inl (upd pr k x))) = ce4 G h e t p q tg pm (upd pr k x) n v := by
    funext a
    by_cases ha : a = q
    · subst ha; rw [bs_set_self, ce_q hD]
    · rw [bs_set_ne ha]; unfold ce4; rw [if_neg ha, if_neg ha]
  rw [e]
  exact kk
theorem ce_pt3 {idx : Nat} {x : Int32} {pc' : Nat} (hl : bs_FL M.1.cls idx 2 3 .int false) (hd : decode M.2.1 pc = .ok (.putfield idx, 3)) (hp : pc + 3 = pc') (kk : bs_B G X M d bc bs (ce4 G h e t p q tg pm pr x v) pc' lv st Q) : bs_B G X M d bc bs (ce4 G h e t p q tg pm pr n v) pc lv (.int x :: .ref e :: st) Q := by
  refine bs_putf hl hd ce_e rfl rfl rfl hp ?_
  have e : bs_set (ce4 G h e t p q tg pm pr n v) e (.inr (2, [.ref t, .ref p, .ref q, .int x, .int v])) = ce4 G h e t p q tg pm pr x v := by
    funext a
    by_cases ha : a = e
    · subst ha; rw [bs_set_self, ce_e]
    · rw [bs_set_ne ha]; unfold ce4; rw [if_neg ha, if_neg ha]
  show bs_B G X M d bc bs (bs_set _ _ (.inr (2, [.ref t, .ref p, .ref q, .int x, .int v]))) pc' lv st Q
  rw [e]
  exact kk
theorem ce_pt4 {idx : Nat} {x : Int32} {pc' : Nat} (hl : bs_FL M.1.cls idx 2 4 .int false) (hd : decode M.2.1 pc = .ok (.putfield idx, 3)) (hp : pc + 3 = pc') (kk : bs_B G X M d bc bs (ce4 G h e t p q tg pm pr n x) pc' lv st Q) : bs_B G X M d bc bs (ce4 G h e t p q tg pm pr n v) pc lv (.int x :: .ref e :: st) Q := by
  refine bs_putf hl hd ce_e rfl rfl rfl hp ?_
  have e : bs_set (ce4 G h e t p q tg pm pr n v) e (.inr (2, [.ref t, .ref p, .ref q, .int n, .int x])) = ce4 G h e t p q tg pm pr n x := by
    funext a
    by_cases ha : a = e
    · subst ha; rw [bs_set_self, ce_e]
    · rw [bs_set_ne ha]; unfold ce4; rw [if_neg ha, if_neg ha]
  show bs_B G X M d bc bs (bs_set _ _ (.inr (2, [.ref t, .ref p, .ref q, .int n, .int x]))) pc' lv st Q
  rw [e]
  exact kk
end CeRows
def ck2 (G : GG) (h : Hp) (k s : Nat) (ser : Nat → Int32) (dp lat : Int32) : Hp := fun a => if a = k then some (.inr (1, [.ref s, .int dp, .int lat])) else if a = s then some (.inl (G.2.1 0, 5, .inl ser)) else h a
section CkRows
variable {G : GG} {h : Hp} {k s : Nat} {ser : Nat → Int32} {dp lat : Int32}
theorem ck_k : ck2 G h k s ser dp lat k = some (.inr (1, [.ref s, .int dp, .int lat])) := if_pos rfl
theorem ck_s (hD : s ≠ k) : ck2 G h k s ser dp lat s = some (.inl (G.2.1 0, 5, .inl ser)) := by
  unfold ck2
  rw [if_neg hD, if_pos rfl]
theorem ck_o {a : Nat} (h1 : a ≠ k) (h2 : a ≠ s) : ck2 G h k s ser dp lat a = h a := by
  unfold ck2
  rw [if_neg h1, if_neg h2]
theorem ck_self (h1 : h k = some (.inr (1, [.ref s, .int dp, .int lat]))) (h2 : h s = some (.inl (G.2.1 0, 5, .inl ser))) : ck2 G h k s ser dp lat = h := by
  funext a
  unfold ck2
  split
  · next q => rw [q, h1]
  · split
    · next q => rw [q, h2]
    · rfl
variable {X : State → Prop} {M : MI} {d bc bs : Nat} {pc : Nat} {lv : List (Nat × Value)} {st : List Value} {Q : Option Value → Hp → Prop}
theorem ck_st {i x : Int32} {pc' : Nat} (hd : decode M.2.1 pc = .ok (.iastore, 1)) (hD : s ≠ k) (j : Nat) (hi : i = nI j) (hk : j < 5) (hp : pc + 1 = pc') (kk : bs_B G X M d bc bs (ck2 G h k s (upd ser j x) dp lat) pc' lv st Q) : bs_B G X M d bc bs (ck2 G h k s ser dp lat) pc lv (.int x :: .int i :: .ref s :: st) Q := by
  refine bs_ist hd (ck_s hD) j hi ⟨hk, by decide⟩ hp ?_
  have e : bs_set (ck2 G h k s ser dp lat) s (.inl (G.2.1 0, 5, .inl (upd ser j x))) = ck2 G h k s (upd ser j x) dp lat := by
    funext a
    by_cases ha : a = s
    · subst ha; rw [bs_set_self, ck_s hD]
    · rw [bs_set_ne ha]; unfold ck2; rw [if_neg ha, if_neg ha]
  rw [e]
  exact kk
theorem ck_pt1 {idx : Nat} {x : Int32} {pc' : Nat} (hl : bs_FL M.1.cls idx 1 1 .int false) (hd : decode M.2.1 pc = .ok (.putfield idx, 3)) (hp : pc + 3 = pc') (kk : bs_B G X M d bc bs (ck2 G h k s ser x lat) pc' lv st Q) : bs_B G X M d bc bs (ck2 G h k s ser dp lat) pc lv (.int x :: .ref k :: st) Q := by
  refine bs_putf hl hd ck_k rfl rfl rfl hp ?_
  have e : bs_set (ck2 G h k s ser dp lat) k (.inr (1, [.ref s, .int x, .int lat])) = ck2 G h k s ser x lat := by
    funext a
    by_cases ha : a = k
    · subst ha; rw [bs_set_self, ck_k]
    · rw [bs_set_ne ha]; unfold ck2; rw [if_neg ha, if_neg ha]
  show bs_B G X M d bc bs (bs_set _ _ (.inr (1, [.ref s, .int x, .int lat]))) pc' lv st Q
  rw [e]
  exact kk
theorem ck_pt2 {idx : Nat} {x : Int32} {pc' : Nat} (hl : bs_FL M.1.cls idx 1 2 .int false) (hd : decode M.2.1 pc = .ok (.putfield idx, 3)) (hp : pc + 3 = pc') (kk : bs_B G X M d bc bs (ck2 G h k s ser dp x) pc' lv st Q) : bs_B G X M d bc bs (ck2 G h k s ser dp lat) pc lv (.int x :: .ref k :: st) Q := by
  refine bs_putf hl hd ck_k rfl rfl rfl hp ?_
  have e : bs_set (ck2 G h k s ser dp lat) k (.inr (1, [.ref s, .int dp, .int x])) = ck2 G h k s ser dp x := by
    funext a
    by_cases ha : a = k
    · subst ha; rw [bs_set_self, ck_k]
    · rw [bs_set_ne ha]; unfold ck2; rw [if_neg ha, if_neg ha]
  show bs_B G X M d bc bs (bs_set _ _ (.inr (1, [.ref s, .int dp, .int x]))) pc' lv st Q
  rw [e]
  exact kk
end CkRows
/-- the Calls in a heap, to be read -/
def kAt (G : GG) (h : Hp) (k s : Nat) (ser : Nat → Int32) (dp lat : Int32) : Prop := h k = some (.inr (1, [.ref s, .int dp, .int lat])) ∧ h s = some (.inl (G.2.1 0, 5, .inl ser))
/-! pure: is a serial number active, of f calls from i on -/
def acf (ser : Nat → Int32) (x : Int32) : Nat → Nat → Bool
  | 0, _ => false
  | f + 1, i => decide (ser i = x) || acf ser x f (i + 1)
theorem acf_t {ser : Nat → Int32} {x : Int32} : ∀ {f i : Nat}, acf ser x f i = true ↔ ∃ l, i ≤ l ∧ l < i + f ∧ ser l = x
  | 0, i => by
    unfold acf
    constructor
    · intro h; cases h
    · rintro ⟨l, h1, h2, -⟩; omega
  | f + 1, i => by
    unfold acf
    rw [Bool.or_eq_true, decide_eq_true_eq, acf_t (f := f)]
    constructor
    · rintro (h | ⟨l, h1, h2, h3⟩)
      · exact ⟨i, Nat.le_refl _, by omega, h⟩
      · exact ⟨l, by omega, by omega, h3⟩
    · rintro ⟨l, h1, h2, h3⟩
      by_cases e : l = i
      · subst e; exact Or.inl h3
      · exact Or.inr ⟨l, by omega, by omega, h3⟩
/-- of f items from j on: is one active, of all or of the unique ones -/
def gdb (pm : Nat → Int32) (ac : Nat → Bool) (all : Bool) : Nat → Nat → Bool
  | 0, _ => false
  | f + 1, j => ((all || decide (pm j = 0)) && ac j) || gdb pm ac all f (j + 1)
theorem gdf_gdb {pm gd : Nat → Int32} {ac : Nat → Bool} {all : Bool} : ∀ {f j : Nat}, (∀ k, j ≤ k → k < j + f → ac k = decide (0 < gd k)) → gdb pm ac all f j = gdf pm gd all f j
  | 0, _, _ => rfl
  | f + 1, j, h => by
    unfold gdb gdf
    rw [h j (by omega) (by omega), gdf_gdb (f := f) (fun k h1 h2 => h k (by omega) (by omega))]
def pOK (pm : Nat → Int32) (n : Nat) : Prop := ∀ k, k < n → pm k = 0 ∨ pm k = 1 ∨ pm k = 2 ∨ pm k = 3
def rdV (tg pm : Nat → Int32) (ac : Nat → Bool) (t : Int32) (n : Nat) : Int32 := match grf tg pm t false n with
  | none => 1
  | some k => if gdb pm ac false (n - (k + 1)) (k + 1) then 2 else 0
def kpt (tg pm : Nat → Int32) (t : Int32) (n : Nat) : Nat := match grf tg pm t true n with
  | none => n
  | some k => abf pm n k
def wrV (tg pm : Nat → Int32) (ac : Nat → Bool) (t : Int32) (n : Nat) : Int32 := match grf tg pm t true n with
  | none => 1
  | some k => if gdb pm ac true (n - abf pm n k) (abf pm n k) then 2 else 0
def frV (tg pm : Nat → Int32) (ac : Nat → Bool) (t : Int32) (n : Nat) : Int32 := match grf tg pm t true n with
  | none => 1
  | some _ => if gdb pm ac true n 0 then 2 else 0
def raV (tg pm : Nat → Int32) (t : Int32) (n : Nat) : Int32 := match grf tg pm t true n with
  | none => 1
  | some _ => 0
def dsf (pm : Nat → Int32) (lo hi : Nat) : Nat → Int32 := fun k => if lo ≤ k ∧ k < hi ∧ pm k = 0 then 3 else pm k
theorem dsf_0 (pm : Nat → Int32) (lo : Nat) : dsf pm lo lo = pm := by
  funext k
  unfold dsf
  rw [if_neg (by omega)]
theorem dsf_at {pm : Nat → Int32} {lo hi k : Nat} (h : hi ≤ k) : dsf pm lo hi k = pm k := by
  unfold dsf
  rw [if_neg (by omega)]
theorem dsf_y {pm : Nat → Int32} {lo hi : Nat} (h : lo ≤ hi) (h6 : pm hi = 0) : upd (dsf pm lo hi) hi 3 = dsf pm lo (hi + 1) := by
  funext i
  unfold upd dsf
  by_cases e : i = hi
  · subst e
    rw [if_pos rfl, if_pos ⟨h, by omega, h6⟩]
  · rw [if_neg e]
    have e : (lo ≤ i ∧ i < hi ∧ pm i = 0) ↔ (lo ≤ i ∧ i < hi + 1 ∧ pm i = 0) := by
      constructor <;> rintro ⟨b, c, d⟩ <;> exact ⟨b, by omega, d⟩
    exact ite_congr (propext e) (fun _ => rfl) (fun _ => rfl)
theorem dsf_no {pm : Nat → Int32} {lo hi : Nat} (h6 : ¬ pm hi = 0) : dsf pm lo hi = dsf pm lo (hi + 1) := by
  funext i
  unfold dsf
  have e : (lo ≤ i ∧ i < hi ∧ pm i = 0) ↔ (lo ≤ i ∧ i < hi + 1 ∧ pm i = 0) := by
    constructor
    · rintro ⟨b, c, d⟩; exact ⟨b, by omega, d⟩
    · rintro ⟨b, c, d⟩
      refine ⟨b, ?_, d⟩
      rcases Nat.lt_or_ge i hi with q | q
      · exact q
      · have : i = hi := by omega
        subst this
        exact absurd d h6
  exact ite_congr (propext e) (fun _ => rfl) (fun _ => rfl)
def rdP (tg pm : Nat → Int32) (t : Int32) (n : Nat) : Nat → Int32 := match grf tg pm t false n with
  | none => pm
  | some g => dsf pm (g + 1) n
def isf (f : Nat → Int32) (i n : Nat) (x : Int32) : Nat → Int32 := upd (shf f i n) i x
