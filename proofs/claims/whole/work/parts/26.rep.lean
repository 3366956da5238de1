/-! the class's cells as a whole: places (t, x, r), their addresses, what lies there when the class holds the state υ (rows as the reference's; 7 the protectors, 16 the latest serial number, 23 the serial numbers) -/
abbrev AB : Type := Nat → Nat → Nat → Nat
def lvI (υ : MS) (t x r : Nat) : Prop := match t with
  | 0 => x < 10 ∧ r = 0
  | 1 => x < zN (υ 8 0) ∧ r = 0
  | 2 => x < zN (υ 0 0) ∧ r = 0
  | 3 => x < zN (υ 0 0) ∧ r = 0
  | 4 => r < 4 ∧ ∃ a i, x = 8 * a + i ∧ i < 8 ∧ a < zN (υ 0 0) ∧ i < zN (υ 1 a)
  | _ => False
def slc (f : Nat → Int32) (c : Nat) : Nat → Int32 := fun k => if k < 12 then f (12 * c + k) else 0
def rfs (n : Nat) (g : Nat → Nat) : Nat → Option Nat := fun j => if j < n then some (g j) else none
def rRow (G : GG) (t n : Nat) (f : Nat → Option Nat) : va_E := .inl (G.2.1 t, n, .inr (.inr (.inr (.inr f))))
def iRow (G : GG) (n : Nat) (f : Nat → Int32) : va_E := .inl (G.2.1 0, n, .inl f)
def cob (G : GG) (β : AB) (υ : MS) (x : Nat) : va_E := match x with
  | 0 => .inr (5, [.ref (β 0 1 0), .int (υ 0 0), .ref (β 0 2 0), .int (υ 8 0), .ref (β 0 3 0), .ref (β 0 5 0), .ref (β 0 9 0), .int (υ 12 0), .int (υ 13 0), .int (υ 14 0)])
  | 1 => rRow G 2 10 (rfs (zN (υ 0 0)) (fun a => β 2 a 0))
  | 2 => rRow G 3 60 (rfs (zN (υ 8 0)) (fun j => β 1 j 0))
  | 3 => .inr (1, [.ref (β 0 4 0), .int (υ 11 0), .int (υ 16 0)])
  | 4 => iRow G 5 (υ 23)
  | 5 => .inr (4, [.ref (β 0 6 0), .int (υ 18 0), .ref (β 0 7 0), .ref (β 0 8 0), .int (υ 21 0), .int (υ 22 0)])
  | 6 => iRow G 120 (υ 17)
  | 7 => iRow G 60 (υ 19)
  | 8 => iRow G 180 (υ 20)
  | _ => iRow G 3 (υ 15)
def cce (G : GG) (β : AB) (υ : MS) (x r : Nat) : va_E := match r with
  | 0 => .inr (2, [.ref (β 4 x 1), .ref (β 4 x 2), .ref (β 4 x 3), .int (υ 4 x), .int (υ 3 x)])
  | 1 => iRow G 12 (slc (υ 5) x)
  | 2 => iRow G 12 (slc (υ 6) x)
  | _ => iRow G 12 (slc (υ 7) x)
def cont (G : GG) (β : AB) (υ : MS) (t x r : Nat) : va_E := match t with
  | 0 => cob G β υ x
  | 1 => .inr (3, [.ref (β 2 (zN (υ 9 x)) 0), .int (υ 10 x)])
  | 2 => .inr (0, [.int (nI x), .ref (β 3 x 0), .int (υ 2 x)])
  | 3 => rRow G 4 (zN (υ 1 x)) (rfs (zN (υ 1 x)) (fun i => β 4 (8 * x + i) 0))
  | _ => cce G β υ x r
def Rep (G : GG) (h0 : Hp) (β : AB) (υ : MS) (h : Hp) : Prop := (∀ t x r, lvI υ t x r → h (β t x r) = some (cont G β υ t x r)) ∧ (∀ t x r t' x' r', lvI υ t x r → lvI υ t' x' r' → β t x r = β t' x' r' → t = t' ∧ x = x' ∧ r = r') ∧ (∀ t x r, lvI υ t x r → h0 (β t x r) = none) ∧ (∀ a, (∀ t x r, lvI υ t x r → β t x r ≠ a) → h a = h0 a)
section RepRows
variable {G : GG} {h0 h h' : Hp} {β : AB} {υ υ' : MS}
theorem Rep.to (R : Rep G h0 β υ h) (hl : ∀ t x r, lvI υ' t x r → lvI υ t x r) (hl' : ∀ t x r, lvI υ t x r → lvI υ' t x r) (h1 : ∀ t x r, lvI υ t x r → h' (β t x r) = some (cont G β υ' t x r)) (h2 : ∀ a, (∀ t x r, lvI υ t x r → β t x r ≠ a) → h' a = h a) : Rep G h0 β υ' h' :=
  ⟨fun t x r q => h1 t x r (hl t x r q), fun t x r t' x' r' q q' e => R.2.1 t x r t' x' r' (hl t x r q) (hl t' x' r' q') e, fun t x r q => R.2.2.1 t x r (hl t x r q), fun a q => (h2 a (fun t x r z => q t x r (hl' t x r z))).trans (R.2.2.2 a (fun t x r z => q t x r (hl' t x r z)))⟩
theorem lvI_of (e0 : υ' 0 0 = υ 0 0) (e8 : υ' 8 0 = υ 8 0) (e1 : υ' 1 = υ 1) {t x r : Nat} (q : lvI υ' t x r) : lvI υ t x r := by
  unfold lvI at q ⊢
  rw [e0, e8, e1] at q
  exact q
theorem Rep.set (R : Rep G h0 β υ h) {t x r : Nat} (hid : lvI υ t x r) (e0 : υ' 0 0 = υ 0 0) (e8 : υ' 8 0 = υ 8 0) (e1 : υ' 1 = υ 1) {e : va_E} (he : e = cont G β υ' t x r) (ho : ∀ t' x' r', lvI υ t' x' r' → ¬ (t' = t ∧ x' = x ∧ r' = r) → cont G β υ' t' x' r' = cont G β υ t' x' r') : Rep G h0 β υ' (bs_set h (β t x r) e) := by
  refine R.to (fun _ _ _ => lvI_of e0 e8 e1) (fun _ _ _ => lvI_of e0.symm e8.symm e1.symm) (fun t' x' r' q => ?_) (fun a q => bs_set_ne (fun z => q t x r hid z.symm))
  by_cases z : t' = t ∧ x' = x ∧ r' = r
  · obtain ⟨rfl, rfl, rfl⟩ := z
    rw [bs_set_self, he]
  · rw [bs_set_ne (fun z' => z (R.2.1 _ _ _ _ _ _ q hid z')), ho t' x' r' q z]
    exact R.1 t' x' r' q
theorem Rep.ne (R : Rep G h0 β υ h) {t x r t' x' r' : Nat} (q : lvI υ t x r) (q' : lvI υ t' x' r') (hn : ¬ (t = t' ∧ x = x' ∧ r = r')) : β t x r ≠ β t' x' r' := fun e => hn (R.2.1 _ _ _ _ _ _ q q' e)
/-- the class's own object and what hangs on it -/
theorem lv0 {k : Nat} (h : Nat.blt k 10 = true) : lvI υ 0 k 0 := ⟨by have := Nat.le_of_ble_eq_true h; omega, rfl⟩
theorem Rep.m (R : Rep G h0 β υ h) : h (β 0 0 0) = some (cob G β υ 0) := R.1 0 0 0 (lv0 rfl)
theorem Rep.b (R : Rep G h0 β υ h) (k : Nat) (hk : Nat.blt k 10 = true) : h (β 0 k 0) = some (cob G β υ k) := R.1 0 k 0 (lv0 hk)
theorem Rep.p (R : Rep G h0 β υ h) {j : Nat} (hj : j < zN (υ 8 0)) : h (β 1 j 0) = some (.inr (3, [.ref (β 2 (zN (υ 9 j)) 0), .int (υ 10 j)])) := R.1 1 j 0 ⟨hj, rfl⟩
theorem Rep.o (R : Rep G h0 β υ h) {a : Nat} (ha : a < zN (υ 0 0)) : h (β 2 a 0) = some (.inr (0, [.int (nI a), .ref (β 3 a 0), .int (υ 2 a)])) := R.1 2 a 0 ⟨ha, rfl⟩
theorem Rep.k (R : Rep G h0 β υ h) {a : Nat} (ha : a < zN (υ 0 0)) : h (β 3 a 0) = some (rRow G 4 (zN (υ 1 a)) (rfs (zN (υ 1 a)) (fun i => β 4 (8 * a + i) 0))) := R.1 3 a 0 ⟨ha, rfl⟩
def isL (υ : MS) (c : Nat) : Prop := ∃ a i, c = 8 * a + i ∧ i < 8 ∧ a < zN (υ 0 0) ∧ i < zN (υ 1 a)
theorem Rep.dc (R : Rep G h0 β υ h) {c : Nat} (hc : isL υ c) : d4 (β 4 c 0) (β 4 c 1) (β 4 c 2) (β 4 c 3) := by
  have L : ∀ r, r < 4 → lvI υ 4 c r := fun r hr => ⟨hr, hc⟩
  refine ⟨R.ne (L 1 (by decide)) (L 0 (by decide)) (by omega), R.ne (L 2 (by decide)) (L 0 (by decide)) (by omega), R.ne (L 3 (by decide)) (L 0 (by decide)) (by omega), R.ne (L 2 (by decide)) (L 1 (by decide)) (by omega), R.ne (L 3 (by decide)) (L 1 (by decide)) (by omega), R.ne (L 3 (by decide)) (L 2 (by decide)) (by omega)⟩
/-- the heap with a cell's four places spelled out -/
theorem Rep.ce (R : Rep G h0 β υ h) {c : Nat} (hc : isL υ c) : ce4 G h (β 4 c 0) (β 4 c 1) (β 4 c 2) (β 4 c 3) (slc (υ 5) c) (slc (υ 6) c) (slc (υ 7) c) (υ 4 c) (υ 3 c) = h :=
  ce_self (R.1 4 c 0 ⟨by decide, hc⟩) (R.1 4 c 1 ⟨by decide, hc⟩) (R.1 4 c 2 ⟨by decide, hc⟩) (R.1 4 c 3 ⟨by decide, hc⟩)
theorem Rep.cel (R : Rep G h0 β υ h) {c : Nat} (hc : isL υ c) (e : ∀ k, ¬ (k = 3 ∨ k = 4 ∨ k = 5 ∨ k = 6 ∨ k = 7) → υ' k = υ k) (ec : ∀ c', c' ≠ c → υ' 3 c' = υ 3 c' ∧ υ' 4 c' = υ 4 c' ∧ slc (υ' 5) c' = slc (υ 5) c' ∧ slc (υ' 6) c' = slc (υ 6) c' ∧ slc (υ' 7) c' = slc (υ 7) c') : Rep G h0 β υ' (ce4 G h (β 4 c 0) (β 4 c 1) (β 4 c 2) (β 4 c 3) (slc (υ' 5) c) (slc (υ' 6) c) (slc (υ' 7) c) (υ' 4 c) (υ' 3 c)) := by
  have L : ∀ r, r < 4 → lvI υ 4 c r := fun r hr => ⟨hr, hc⟩
  have D := R.dc hc
  refine R.to (fun _ _ _ => lvI_of (by rw [e 0 (by decide)]) (by rw [e 8 (by decide)]) (e 1 (by decide))) (fun _ _ _ => lvI_of (by rw [e 0 (by decide)]) (by rw [e 8 (by decide)]) (e 1 (by decide)).symm) (fun t x r q => ?_) (fun a q => ce_o (fun z => q 4 c 0 (L 0 (by decide)) z.symm) (fun z => q 4 c 1 (L 1 (by decide)) z.symm) (fun z => q 4 c 2 (L 2 (by decide)) z.symm) (fun z => q 4 c 3 (L 3 (by decide)) z.symm))
  by_cases z : t = 4 ∧ x = c
  · obtain ⟨rfl, rfl⟩ := z
    have hr : r < 4 := q.1
    have : r = 0 ∨ r = 1 ∨ r = 2 ∨ r = 3 := by omega
    rcases this with rfl | rfl | rfl | rfl
    · exact ce_e
    · exact ce_t D
    · exact ce_p D
    · exact ce_q D
  · have far : ∀ r', r' < 4 → β t x r ≠ β 4 c r' := fun r' hr' => R.ne q (L r' hr') (fun w => z ⟨w.1, w.2.1⟩)
    rw [ce_o (far 0 (by decide)) (far 1 (by decide)) (far 2 (by decide)) (far 3 (by decide)), R.1 t x r q]
    have same : cont G β υ' t x r = cont G β υ t x r := by
      match t, q, z with
      | 0, q, z =>
        have hx : x < 10 := q.1
        have : x = 0 ∨ x = 1 ∨ x = 2 ∨ x = 3 ∨ x = 4 ∨ x = 5 ∨ x = 6 ∨ x = 7 ∨ x = 8 ∨ x = 9 := by omega
        unfold cont
        rcases this with rfl | rfl | rfl | rfl | rfl | rfl | rfl | rfl | rfl | rfl <;> simp only [cob, e 0 (by decide), e 8 (by decide), e 11 (by decide), e 12 (by decide), e 13 (by decide), e 14 (by decide), e 15 (by decide), e 16 (by decide), e 17 (by decide), e 18 (by decide), e 19 (by decide), e 20 (by decide), e 21 (by decide), e 22 (by decide), e 23 (by decide)]
      | 1, q, z => simp only [cont, e 9 (by decide), e 10 (by decide)]
      | 2, q, z => simp only [cont, e 2 (by decide)]
      | 3, q, z => simp only [cont, e 1 (by decide)]
      | 4, q, z =>
        obtain ⟨a1, a2, a3, a4, a5⟩ := ec x (fun w => z ⟨rfl, w⟩)
        simp only [cont, cce, a1, a2, a3, a4, a5]
      | t + 5, q, z => exact absurd q id
    rw [same]
/-- the calls -/
theorem Rep.ck (R : Rep G h0 β υ h) : ck2 G h (β 0 3 0) (β 0 4 0) (υ 23) (υ 11 0) (υ 16 0) = h := ck_self (R.b 3 rfl) (R.b 4 rfl)
theorem Rep.kA (R : Rep G h0 β υ h) : kAt G h (β 0 3 0) (β 0 4 0) (υ 23) (υ 11 0) (υ 16 0) := ⟨R.b 3 rfl, R.b 4 rfl⟩
theorem Rep.nk (R : Rep G h0 β υ h) : β 0 4 0 ≠ β 0 3 0 := R.ne (lv0 rfl) (lv0 rfl) (by omega)
theorem Rep.cal (R : Rep G h0 β υ h) (e : ∀ k, ¬ (k = 11 ∨ k = 16 ∨ k = 23) → υ' k = υ k) : Rep G h0 β υ' (ck2 G h (β 0 3 0) (β 0 4 0) (υ' 23) (υ' 11 0) (υ' 16 0)) := by
  refine R.to (fun _ _ _ => lvI_of (by rw [e 0 (by decide)]) (by rw [e 8 (by decide)]) (e 1 (by decide))) (fun _ _ _ => lvI_of (by rw [e 0 (by decide)]) (by rw [e 8 (by decide)]) (e 1 (by decide)).symm) (fun t x r q => ?_) (fun a q => ck_o (fun z => q 0 3 0 (lv0 rfl) z.symm) (fun z => q 0 4 0 (lv0 rfl) z.symm))
  by_cases z3 : t = 0 ∧ x = 3
  · obtain ⟨rfl, rfl⟩ := z3
    obtain rfl : r = 0 := q.2
    exact ck_k
  · by_cases z4 : t = 0 ∧ x = 4
    · obtain ⟨rfl, rfl⟩ := z4
      obtain rfl : r = 0 := q.2
      exact ck_s R.nk
    · rw [ck_o (R.ne q (lv0 rfl) (fun w => z3 ⟨w.1, w.2.1⟩)) (R.ne q (lv0 rfl) (fun w => z4 ⟨w.1, w.2.1⟩)), R.1 t x r q]
      have same : cont G β υ' t x r = cont G β υ t x r := by
        match t, q, z3, z4 with
        | 0, q, z3, z4 =>
          have hx : x < 10 := q.1
          have : x = 0 ∨ x = 1 ∨ x = 2 ∨ x = 5 ∨ x = 6 ∨ x = 7 ∨ x = 8 ∨ x = 9 := by omega
          unfold cont
          rcases this with rfl | rfl | rfl | rfl | rfl | rfl | rfl | rfl <;> simp only [cob, e 0 (by decide), e 8 (by decide), e 12 (by decide), e 13 (by decide), e 14 (by decide), e 15 (by decide), e 17 (by decide), e 18 (by decide), e 19 (by decide), e 20 (by decide), e 21 (by decide), e 22 (by decide)]
        | 1, q, z, _ => simp only [cont, e 9 (by decide), e 10 (by decide)]
        | 2, q, z, _ => simp only [cont, e 2 (by decide)]
        | 3, q, z, _ => simp only [cont, e 1 (by decide)]
        | 4, q, z, _ =>
          simp only [cont, cce, e 3 (by decide), e 4 (by decide), e 5 (by decide), e 6 (by decide), e 7 (by decide)]
        | t + 5, q, z, _ => exact absurd q id
      rw [same]
/-- the script -/
theorem Rep.sk (R : Rep G h0 β υ h) : skH G h (β 0 5 0) (β 0 6 0) (β 0 7 0) (β 0 8 0) υ = h := sk_self (R.b 5 rfl) (R.b 6 rfl) (R.b 7 rfl) (R.b 8 rfl)
theorem Rep.d5 (R : Rep G h0 β υ h) : d4 (β 0 5 0) (β 0 6 0) (β 0 7 0) (β 0 8 0) := ⟨R.ne (lv0 rfl) (lv0 rfl) (by omega), R.ne (lv0 rfl) (lv0 rfl) (by omega), R.ne (lv0 rfl) (lv0 rfl) (by omega), R.ne (lv0 rfl) (lv0 rfl) (by omega), R.ne (lv0 rfl) (lv0 rfl) (by omega), R.ne (lv0 rfl) (lv0 rfl) (by omega)⟩
theorem Rep.scr (R : Rep G h0 β υ h) (e : ∀ k, ¬ (17 ≤ k ∧ k ≤ 22) → υ' k = υ k) : Rep G h0 β υ' (skH G h (β 0 5 0) (β 0 6 0) (β 0 7 0) (β 0 8 0) υ') := by
  have D := R.d5
  refine R.to (fun _ _ _ => lvI_of (by rw [e 0 (by decide)]) (by rw [e 8 (by decide)]) (e 1 (by decide))) (fun _ _ _ => lvI_of (by rw [e 0 (by decide)]) (by rw [e 8 (by decide)]) (e 1 (by decide)).symm) (fun t x r q => ?_) (fun a q => sk_ot (fun z => q 0 5 0 (lv0 rfl) z.symm) (fun z => q 0 6 0 (lv0 rfl) z.symm) (fun z => q 0 7 0 (lv0 rfl) z.symm) (fun z => q 0 8 0 (lv0 rfl) z.symm))
  by_cases z : t = 0 ∧ (x = 5 ∨ x = 6 ∨ x = 7 ∨ x = 8)
  · obtain ⟨rfl, z⟩ := z
    obtain rfl : r = 0 := q.2
    rcases z with rfl | rfl | rfl | rfl
    · exact sk_o
    · exact sk_x D
    · exact sk_l D
    · exact sk_r D
  · have far : ∀ k, (k = 5 ∨ k = 6 ∨ k = 7 ∨ k = 8) → β t x r ≠ β 0 k 0 := fun k hk => R.ne q ⟨by omega, rfl⟩ (fun w => z ⟨w.1, by rw [w.2.1]; exact hk⟩)
    rw [sk_ot (far 5 (by decide)) (far 6 (by decide)) (far 7 (by decide)) (far 8 (by decide)), R.1 t x r q]
    have same : cont G β υ' t x r = cont G β υ t x r := by
      match t, q, z with
      | 0, q, z =>
        have hx : x < 10 := q.1
        have : x = 0 ∨ x = 1 ∨ x = 2 ∨ x = 3 ∨ x = 4 ∨ x = 9 := by omega
        unfold cont
        rcases this with rfl | rfl | rfl | rfl | rfl | rfl <;> simp only [cob, e 0 (by decide), e 8 (by decide), e 11 (by decide), e 12 (by decide), e 13 (by decide), e 14 (by decide), e 15 (by decide), e 16 (by decide), e 23 (by decide)]
      | 1, q, z => simp only [cont, e 9 (by decide), e 10 (by decide)]
      | 2, q, z => simp only [cont, e 2 (by decide)]
      | 3, q, z => simp only [cont, e 1 (by decide)]
      | 4, q, z =>
        simp only [cont, cce, e 3 (by decide), e 4 (by decide), e 5 (by decide), e 6 (by decide), e 7 (by decide)]
      | t + 5, q, z => exact absurd q id
    rw [same]
/-- a number of the class's own object -/
theorem Rep.put (R : Rep G h0 β υ h) {k : Nat} {x : Int32} (hk : k = 12 ∨ k = 13 ∨ k = 14) : Rep G h0 β (ms_u υ k 0 x) (bs_set h (β 0 0 0) (cob G β (ms_u υ k 0 x) 0)) := by
  have e : ∀ j, ¬ (j = 12 ∨ j = 13 ∨ j = 14) → ms_u υ k 0 x j = υ j := fun j hj => ms_u_n (by omega)
  refine R.set (lv0 rfl) (by rw [e 0 (by decide)]) (by rw [e 8 (by decide)]) (e 1 (by decide)) rfl (fun t y r q z => ?_)
  match t, q, z with
  | 0, q, z =>
    have hx : y < 10 := q.1
    obtain rfl : r = 0 := q.2
    have : y = 1 ∨ y = 2 ∨ y = 3 ∨ y = 4 ∨ y = 5 ∨ y = 6 ∨ y = 7 ∨ y = 8 ∨ y = 9 := by omega
    unfold cont
    rcases this with rfl | rfl | rfl | rfl | rfl | rfl | rfl | rfl | rfl <;> simp only [cob, e 0 (by decide), e 8 (by decide), e 11 (by decide), e 15 (by decide), e 16 (by decide), e 17 (by decide), e 18 (by decide), e 19 (by decide), e 20 (by decide), e 21 (by decide), e 22 (by decide), e 23 (by decide)]
  | 1, q, z => simp only [cont, e 9 (by decide), e 10 (by decide)]
  | 2, q, z => simp only [cont, e 2 (by decide)]
  | 3, q, z => simp only [cont, e 1 (by decide)]
  | 4, q, z =>
    simp only [cont, cce, e 3 (by decide), e 4 (by decide), e 5 (by decide), e 6 (by decide), e 7 (by decide)]
  | t + 5, q, z => exact absurd q id
/-- an error more -/
theorem Rep.er (R : Rep G h0 β υ h) {i : Nat} {x : Int32} : Rep G h0 β (ms_u υ 15 i x) (bs_set h (β 0 9 0) (iRow G 3 (upd (υ 15) i x))) := by
  have e : ∀ j, ¬ j = 15 → ms_u υ 15 i x j = υ j := fun j hj => ms_u_n hj
  refine R.set (lv0 rfl) (by rw [e 0 (by decide)]) (by rw [e 8 (by decide)]) (e 1 (by decide)) (by rw [← ms_u_k (σ := υ) (k := 15)]; rfl) (fun t y r q z => ?_)
  match t, q, z with
  | 0, q, z =>
    have hx : y < 10 := q.1
    obtain rfl : r = 0 := q.2
    have : y = 0 ∨ y = 1 ∨ y = 2 ∨ y = 3 ∨ y = 4 ∨ y = 5 ∨ y = 6 ∨ y = 7 ∨ y = 8 := by omega
    unfold cont
    rcases this with rfl | rfl | rfl | rfl | rfl | rfl | rfl | rfl | rfl <;> simp only [cob, e 0 (by decide), e 8 (by decide), e 11 (by decide), e 12 (by decide), e 13 (by decide), e 14 (by decide), e 16 (by decide), e 17 (by decide), e 18 (by decide), e 19 (by decide), e 20 (by decide), e 21 (by decide), e 22 (by decide), e 23 (by decide)]
  | 1, q, z => simp only [cont, e 9 (by decide), e 10 (by decide)]
  | 2, q, z => simp only [cont, e 2 (by decide)]
  | 3, q, z => simp only [cont, e 1 (by decide)]
  | 4, q, z =>
    simp only [cont, cce, e 3 (by decide), e 4 (by decide), e 5 (by decide), e 6 (by decide), e 7 (by decide)]
  | t + 5, q, z => exact absurd q id
/-- an allocation is freed -/
theorem Rep.fr (R : Rep G h0 β υ h) {a : Nat} {x : Int32} (ha : a < zN (υ 0 0)) : Rep G h0 β (ms_u υ 2 a x) (bs_set h (β 2 a 0) (.inr (0, [.int (nI a), .ref (β 3 a 0), .int x]))) := by
  have e : ∀ j, ¬ j = 2 → ms_u υ 2 a x j = υ j := fun j hj => ms_u_n hj
  have e2 : ms_u υ 2 a x 2 = upd (υ 2) a x := ms_u_k
  refine R.set (t := 2) (x := a) (r := 0) ⟨ha, rfl⟩ (by rw [e 0 (by decide)]) (by rw [e 8 (by decide)]) (e 1 (by decide)) (by simp only [cont, e2, upd, if_true]) (fun t y r q z => ?_)
  match t, q, z with
  | 0, q, z =>
    have hx : y < 10 := q.1
    obtain rfl : r = 0 := q.2
    have : y = 0 ∨ y = 1 ∨ y = 2 ∨ y = 3 ∨ y = 4 ∨ y = 5 ∨ y = 6 ∨ y = 7 ∨ y = 8 ∨ y = 9 := by omega
    unfold cont
    rcases this with rfl | rfl | rfl | rfl | rfl | rfl | rfl | rfl | rfl | rfl <;> simp only [cob, e 0 (by decide), e 8 (by decide), e 11 (by decide), e 12 (by decide), e 13 (by decide), e 14 (by decide), e 15 (by decide), e 16 (by decide), e 17 (by decide), e 18 (by decide), e 19 (by decide), e 20 (by decide), e 21 (by decide), e 22 (by decide), e 23 (by decide)]
  | 1, q, z => simp only [cont, e 9 (by decide), e 10 (by decide)]
  | 2, q, z =>
    obtain rfl : r = 0 := q.2
    simp only [cont, e2, upd]
    rw [if_neg (fun w => z ⟨rfl, w, rfl⟩)]
  | 3, q, z => simp only [cont, e 1 (by decide)]
  | 4, q, z =>
    simp only [cont, cce, e 3 (by decide), e 4 (by decide), e 5 (by decide), e 6 (by decide), e 7 (by decide)]
  | t + 5, q, z => exact absurd q id
end RepRows
