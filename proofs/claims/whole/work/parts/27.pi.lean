/-! the class's state out of the reference's and of what only the class keeps -/
def own (k : Nat) : Bool := k == 7 || k == 16 || Nat.ble 19 k
def lk (σ κ : MS) : MS := fun k => if own k = true then κ k else σ k
theorem own_t {k : Nat} : own k = true ↔ k = 7 ∨ k = 16 ∨ 19 ≤ k := by
  unfold own
  rw [Bool.or_eq_true, Bool.or_eq_true, beq_iff_eq, beq_iff_eq, Nat.ble_eq, or_assoc]
theorem lk_s {σ κ : MS} {k : Nat} (h : ¬ (k = 7 ∨ k = 16 ∨ 19 ≤ k)) : lk σ κ k = σ k := if_neg (fun q => h (own_t.mp q))
theorem lk_o {σ κ : MS} {k : Nat} (h : k = 7 ∨ k = 16 ∨ 19 ≤ k) : lk σ κ k = κ k := if_pos (own_t.mpr h)
/-- how a guard of the reference and a protector of the class agree -/
def gOK (ser : Nat → Int32) (d : Nat) (g q : Int32) : Prop := (g = 0 ∧ ∀ l, l < d → ser l ≠ q) ∨ ∃ l, l < d ∧ g = nI (l + 1) ∧ q = ser l
def pm4 (x : Int32) : Prop := x = 0 ∨ x = 1 ∨ x = 2 ∨ x = 3
/-- what the calls keep -/
def sOK (ser : Nat → Int32) (d L : Nat) : Prop := (∀ l, l < d → nn (ser l) L ∧ 1 ≤ zN (ser l)) ∧ ∀ l l', l < l' → l' < d → zN (ser l) < zN (ser l')
def PI (B : Nat) (σ κ : MS) : Prop := (mInv σ) ∧ (∀ c, c < 80 → 0 ≤ σ 3 c) ∧ (∀ a, a < 10 → σ 2 a = 0 ∨ σ 2 a = 1) ∧ (∀ i, i < 960 → pm4 (σ 6 i)) ∧ (∀ a, zN (σ 0 0) ≤ a → a < 10 → σ 2 a = 0) ∧ (∀ c, 8 * zN (σ 0 0) ≤ c → c < 80 → σ 3 c = 0) ∧ (∀ i, 96 * zN (σ 0 0) ≤ i → i < 960 → σ 5 i = 0 ∧ σ 6 i = 0 ∧ σ 7 i = 0 ∧ κ 7 i = 0) ∧ (nn (κ 16 0) B) ∧ (sOK (κ 23) (zN (σ 11 0)) (zN (κ 16 0))) ∧ (∀ i, i < 960 → nn (κ 7 i) (zN (κ 16 0))) ∧ (∀ i, i < 960 → gOK (κ 23) (zN (σ 11 0)) (σ 7 i) (κ 7 i))
theorem PIm (B : Nat) (σ κ : MS) (inv : mInv σ) (val : ∀ c, c < 80 → 0 ≤ σ 3 c) (frd : ∀ a, a < 10 → σ 2 a = 0 ∨ σ 2 a = 1) (prm : ∀ i, i < 960 → pm4 (σ 6 i)) (fr2 : ∀ a, zN (σ 0 0) ≤ a → a < 10 → σ 2 a = 0) (fr3 : ∀ c, 8 * zN (σ 0 0) ≤ c → c < 80 → σ 3 c = 0) (fr5 : ∀ i, 96 * zN (σ 0 0) ≤ i → i < 960 → σ 5 i = 0 ∧ σ 6 i = 0 ∧ σ 7 i = 0 ∧ κ 7 i = 0) (lat : nn (κ 16 0) B) (ser : sOK (κ 23) (zN (σ 11 0)) (zN (κ 16 0))) (pro : ∀ i, i < 960 → nn (κ 7 i) (zN (κ 16 0))) (grd : ∀ i, i < 960 → gOK (κ 23) (zN (σ 11 0)) (σ 7 i) (κ 7 i)) : PI B σ κ := ⟨inv, val, frd, prm, fr2, fr3, fr5, lat, ser, pro, grd⟩
theorem PI.inv {B : Nat} {σ κ : MS} (P : PI B σ κ) : mInv σ := P.1
theorem PI.val {B : Nat} {σ κ : MS} (P : PI B σ κ) : ∀ c, c < 80 → 0 ≤ σ 3 c := P.2.1
theorem PI.frd {B : Nat} {σ κ : MS} (P : PI B σ κ) : ∀ a, a < 10 → σ 2 a = 0 ∨ σ 2 a = 1 := P.2.2.1
theorem PI.prm {B : Nat} {σ κ : MS} (P : PI B σ κ) : ∀ i, i < 960 → pm4 (σ 6 i) := P.2.2.2.1
theorem PI.fr2 {B : Nat} {σ κ : MS} (P : PI B σ κ) : ∀ a, zN (σ 0 0) ≤ a → a < 10 → σ 2 a = 0 := P.2.2.2.2.1
theorem PI.fr3 {B : Nat} {σ κ : MS} (P : PI B σ κ) : ∀ c, 8 * zN (σ 0 0) ≤ c → c < 80 → σ 3 c = 0 := P.2.2.2.2.2.1
theorem PI.fr5 {B : Nat} {σ κ : MS} (P : PI B σ κ) : ∀ i, 96 * zN (σ 0 0) ≤ i → i < 960 → σ 5 i = 0 ∧ σ 6 i = 0 ∧ σ 7 i = 0 ∧ κ 7 i = 0 := P.2.2.2.2.2.2.1
theorem PI.lat {B : Nat} {σ κ : MS} (P : PI B σ κ) : nn (κ 16 0) B := P.2.2.2.2.2.2.2.1
theorem PI.ser {B : Nat} {σ κ : MS} (P : PI B σ κ) : sOK (κ 23) (zN (σ 11 0)) (zN (κ 16 0)) := P.2.2.2.2.2.2.2.2.1
theorem PI.pro {B : Nat} {σ κ : MS} (P : PI B σ κ) : ∀ i, i < 960 → nn (κ 7 i) (zN (κ 16 0)) := P.2.2.2.2.2.2.2.2.2.1
theorem PI.grd {B : Nat} {σ κ : MS} (P : PI B σ κ) : ∀ i, i < 960 → gOK (κ 23) (zN (σ 11 0)) (σ 7 i) (κ 7 i) := P.2.2.2.2.2.2.2.2.2.2
section PIRows
variable {B : Nat} {σ κ : MS}
theorem PI.mlk (P : PI B σ κ) : mInv (lk σ κ) := mInv_of P.inv (fun k hk => lk_s (by omega))
theorem PI.up (P : PI B σ κ) {B' : Nat} (h : B ≤ B') : PI B' σ κ := ⟨P.inv, P.val, P.frd, P.prm, P.fr2, P.fr3, P.fr5, ⟨P.lat.1, Nat.le_trans P.lat.2 h⟩, P.ser, P.pro, P.grd⟩
/-- rows that the invariant does not see -/
theorem PI.of {σ' : MS} (P : PI B σ κ) (e : ∀ k, k = 0 ∨ k = 1 ∨ k = 2 ∨ k = 3 ∨ k = 4 ∨ k = 5 ∨ k = 6 ∨ k = 7 ∨ k = 8 ∨ k = 9 ∨ k = 11 ∨ k = 18 → σ' k = σ k) : PI B σ' κ := by
  refine ⟨mInv_of P.inv (fun k hk => e k (by omega)), ?_, ?_, ?_, ?_, ?_, ?_, P.lat, ?_, P.pro, ?_⟩
  · rw [e 3 (by decide)]; exact P.val
  · rw [e 2 (by decide)]; exact P.frd
  · rw [e 6 (by decide)]; exact P.prm
  · rw [e 2 (by decide), e 0 (by decide)]; exact P.fr2
  · rw [e 3 (by decide), e 0 (by decide)]; exact P.fr3
  · rw [e 5 (by decide), e 6 (by decide), e 7 (by decide), e 0 (by decide)]; exact P.fr5
  · rw [e 11 (by decide)]; exact P.ser
  · rw [e 11 (by decide), e 7 (by decide)]; exact P.grd
theorem PI.ofk {κ' : MS} (P : PI B σ κ) (e : ∀ k, k = 7 ∨ k = 16 ∨ k = 23 → κ' k = κ k) : PI B σ κ' := by
  refine ⟨P.inv, P.val, P.frd, P.prm, P.fr2, P.fr3, ?_, ?_, ?_, ?_, ?_⟩
  · rw [e 7 (by decide)]; exact P.fr5
  · rw [e 16 (by decide)]; exact P.lat
  · rw [e 16 (by decide), e 23 (by decide)]; exact P.ser
  · rw [e 16 (by decide), e 7 (by decide)]; exact P.pro
  · rw [e 7 (by decide), e 23 (by decide)]; exact P.grd
theorem PI.c96 (P : PI B σ κ) {c : Nat} (hc : isL σ c) : c < 8 * zN (σ 0 0) ∧ c < 80 ∧ 12 * c + 12 ≤ 960 := by
  obtain ⟨a, i, rfl, hi, ha, -⟩ := hc
  have := P.inv.nA.2
  omega
theorem gOK_ac {ser : Nat → Int32} {d : Nat} {g q : Int32} (hd : d ≤ 5) (h : gOK ser d g q) : acf ser q d 0 = decide (0 < g) := by
  rcases h with ⟨rfl, h⟩ | ⟨l, h1, rfl, rfl⟩
  · have : ¬ acf ser q d 0 = true := by
      rw [acf_t]
      rintro ⟨l, -, h2, h3⟩
      exact h l (by omega) h3
    rw [show acf ser q d 0 = false by simpa using this]
    decide
  · rw [acf_t.mpr ⟨l, Nat.zero_le _, by omega, rfl⟩]
    symm
    rw [decide_eq_true_eq, show (0 : Int32) = nI 0 from rfl]
    exact nI_lt (by omega) (by omega)
/-- a slice and the row that it was cut of -/
theorem slc_at {f : Nat → Int32} {c k : Nat} (h : k < 12) : slc f c k = f (12 * c + k) := if_pos h
theorem grf_slc {f g : Nat → Int32} {c : Nat} {t : Int32} {w : Bool} {n : Nat} (h : n ≤ 12) : grf (slc f c) (slc g c) t w n = grf (fun k => f (12 * c + k)) (fun k => g (12 * c + k)) t w n := grf_cong (fun k hk => ⟨slc_at (by omega), slc_at (by omega)⟩)
theorem abf_slc {g : Nat → Int32} {c : Nat} {n k : Nat} (h : n ≤ 12) (hk : k < n) : abf (slc g c) n k = abf (fun k => g (12 * c + k)) n k := abf_cong hk (fun k hk => slc_at (by omega))
theorem PI.pok (P : PI B σ κ) {c n : Nat} (hc : c < 80) (hn : n ≤ 12) : pOK (slc (σ 6) c) n := by
  intro k hk
  rw [slc_at (by omega)]
  exact P.prm _ (by omega)
theorem PI.gdbE (P : PI B σ κ) {c n j : Nat} {all : Bool} (hc : c < 80) (hn : j + n ≤ 12) : gdb (slc (σ 6) c) (fun k => acf (κ 23) (slc (κ 7) c k) (zN (σ 11 0)) 0) all n j = gdf (fun k => σ 6 (12 * c + k)) (fun k => σ 7 (12 * c + k)) all n j := by
  have h5 := P.inv.dp.2
  rw [gdf_gdb (gd := fun k => σ 7 (12 * c + k)) (fun k h1 h2 => by
    show acf (κ 23) (slc (κ 7) c k) (zN (σ 11 0)) 0 = _
    rw [slc_at (by omega)]
    exact gOK_ac h5 (P.grd _ (by omega)))]
  exact gdf_cong (fun k h1 h2 => ⟨slc_at (f := σ 6) (c := c) (k := k) (by omega), rfl⟩)
theorem PI.grE (P : PI B σ κ) {c : Nat} {t : Int32} {w : Bool} (hc : c < 80) : grf (slc (σ 5) c) (slc (σ 6) c) t w (zN (σ 4 c)) = gr σ c t w := grf_slc (P.inv.sz hc).2
theorem PI.rdE (P : PI B σ κ) {c : Nat} {t : Int32} (hc : c < 80) : rdV (slc (σ 5) c) (slc (σ 6) c) (fun k => acf (κ 23) (slc (κ 7) c k) (zN (σ 11 0)) 0) t (zN (σ 4 c)) = (match gr σ c t false with | none => 1 | some k => if gd σ c (k + 1) false then 2 else 0) := by
  have h12 := (P.inv.sz hc).2
  unfold rdV
  rw [P.grE hc]
  cases hg : gr σ c t false with
  | none => rfl
  | some k =>
    have := grf_lt hg
    show (if _ then _ else _ : Int32) = if _ then _ else _
    rw [P.gdbE hc (by omega)]
    rfl
def rdW (σ : MS) (c : Nat) (t : Int32) : Int32 := match gr σ c t false with
  | none => 1
  | some k => if gd σ c (k + 1) false then 2 else 0
def wrW (σ : MS) (c : Nat) (t : Int32) : Int32 := match gr σ c t true with
  | none => 1
  | some k => if gd σ c (ab σ c k) true then 2 else 0
def frW (σ : MS) (c : Nat) (t : Int32) : Int32 := match gr σ c t true with
  | none => 1
  | some _ => if gd σ c 0 true then 2 else 0
def raW (σ : MS) (c : Nat) (t : Int32) : Int32 := match gr σ c t true with
  | none => 1
  | some _ => 0
def rbW (σ : MS) (c : Nat) (kd t : Int32) : Int32 := if kd = 0 then wrW σ c t else if kd = 1 then rdW σ c t else raW σ c t
def kpW (σ : MS) (c : Nat) (t : Int32) : Nat := match gr σ c t true with
  | none => zN (σ 4 c)
  | some k => ab σ c k
theorem PI.kpE (P : PI B σ κ) {c : Nat} {t : Int32} (hc : c < 80) : kpt (slc (σ 5) c) (slc (σ 6) c) t (zN (σ 4 c)) = kpW σ c t := by
  have h12 := (P.inv.sz hc).2
  unfold kpt kpW
  rw [P.grE hc]
  cases hg : gr σ c t true with
  | none => rfl
  | some k => exact abf_slc h12 (grf_lt hg)
theorem PI.wrE (P : PI B σ κ) {c : Nat} {t : Int32} (hc : c < 80) : wrV (slc (σ 5) c) (slc (σ 6) c) (fun k => acf (κ 23) (slc (κ 7) c k) (zN (σ 11 0)) 0) t (zN (σ 4 c)) = wrW σ c t := by
  have h12 := (P.inv.sz hc).2
  unfold wrV wrW
  rw [P.grE hc]
  cases hg : gr σ c t true with
  | none => rfl
  | some k =>
    have h1 := grf_lt hg
    have h2 := (abf_le (pm := fun k => σ 6 (12 * c + k)) h1).2
    show (if _ then _ else _ : Int32) = if _ then _ else _
    rw [abf_slc h12 h1, P.gdbE hc (by omega)]
    rfl
theorem PI.frE (P : PI B σ κ) {c : Nat} {t : Int32} (hc : c < 80) : frV (slc (σ 5) c) (slc (σ 6) c) (fun k => acf (κ 23) (slc (κ 7) c k) (zN (σ 11 0)) 0) t (zN (σ 4 c)) = frW σ c t := by
  have h12 := (P.inv.sz hc).2
  unfold frV frW
  rw [P.grE hc]
  cases hg : gr σ c t true with
  | none => rfl
  | some k =>
    show (if _ then _ else _ : Int32) = if _ then _ else _
    rw [P.gdbE hc (by omega)]
    rfl
theorem PI.raE (P : PI B σ κ) {c : Nat} {t : Int32} (hc : c < 80) : raV (slc (σ 5) c) (slc (σ 6) c) t (zN (σ 4 c)) = raW σ c t := by
  unfold raV raW
  rw [P.grE hc]
  cases gr σ c t true <;> rfl
theorem PI.rbE (P : PI B σ κ) {c : Nat} {kd t : Int32} (hc : c < 80) : rbV (slc (σ 5) c) (slc (σ 6) c) (fun k => acf (κ 23) (slc (κ 7) c k) (zN (σ 11 0)) 0) kd t (zN (σ 4 c)) = rbW σ c kd t := by
  unfold rbV rbW
  rw [P.wrE hc, P.rdE hc, P.raE hc]
  rfl
/-- the reference's kinds, by the cell -/
theorem rdK_W {p i : Nat} : rdK σ p i = if ¬ σ 2 (zN (σ 9 p)) = 0 then 3 else rdW σ (cO σ p i) (nI p) := rfl
theorem wrK_W {p i : Nat} : wrK σ p i = if ¬ σ 2 (zN (σ 9 p)) = 0 then 3 else wrW σ (cO σ p i) (nI p) := rfl
theorem rwK_W {p i : Nat} : rwK σ p i = if ¬ σ 2 (zN (σ 9 p)) = 0 then 3 else raW σ (cO σ p i) (nI p) := rfl
theorem rbK_W {p i : Nat} {kd : Int32} : rbK σ p kd i = if ¬ σ 2 (zN (σ 9 p)) = 0 then 3 else rbW σ (cO σ p i) kd (nI p) := by
  unfold rbK rbW
  rw [wrK_W, rdK_W, rwK_W]
  split <;> split <;> (try split) <;> rfl
theorem gdf_up {pm gd : Nat → Int32} {all : Bool} : ∀ {m j f : Nat}, gdf pm gd all f (j + m) = true → gdf pm gd all (m + f) j = true
  | 0, j, f, h => by rw [Nat.zero_add]; exact h
  | m + 1, j, f, h => by
    rw [show m + 1 + f = (m + f) + 1 by omega]
    unfold gdf
    rw [Bool.or_eq_true]
    exact Or.inr (gdf_up (m := m) (j := j + 1) (by rw [show j + 1 + m = j + (m + 1) by omega]; exact h))
theorem frK_W {p i : Nat} : frK σ p i = if ¬ σ 2 (zN (σ 9 p)) = 0 then 3 else frW σ (cO σ p i) (nI p) := by
  unfold frK
  rw [wrK_W]
  by_cases hf : ¬ σ 2 (zN (σ 9 p)) = 0
  · rw [if_pos hf, if_pos hf, if_pos (by decide)]
  · rw [if_neg hf, if_neg hf]
    unfold wrW frW
    cases hg : gr σ (cO σ p i) (nI p) true with
    | none => exact if_pos (show ¬ (1 : Int32) = 0 by decide)
    | some k =>
      show (if ¬ (if gd σ (cO σ p i) (ab σ (cO σ p i) k) true = true then (2 : Int32) else 0) = 0 then _ else _) = if gd σ (cO σ p i) 0 true = true then (2 : Int32) else 0
      by_cases hq : gd σ (cO σ p i) (ab σ (cO σ p i) k) true = true
      · rw [if_pos hq, if_pos (by decide)]
        have h2 := (abf_le (pm := fun k => σ 6 (12 * cO σ p i + k)) (grf_lt hg)).2
        have h3 : gd σ (cO σ p i) 0 true = true := by
          have := gdf_up (j := 0) (m := ab σ (cO σ p i) k) (by rw [Nat.zero_add]; exact hq)
          unfold gd
          rw [show ab σ (cO σ p i) k + (zN (σ 4 (cO σ p i)) - ab σ (cO σ p i) k) = zN (σ 4 (cO σ p i)) - 0 by
            have h2 : ab σ (cO σ p i) k ≤ zN (σ 4 (cO σ p i)) := h2
            omega] at this
          exact this
        rw [if_pos h3]
        exact if_pos hq
      · rw [if_neg hq, if_neg (by decide)]
end PIRows
/-! what each call does, but for the counting of errors -/
def k_read (σ : MS) (p c : Int32) : Int32 × MS := if isC σ p c = true then (if rdK σ (zN p) (zN c) = 0 then (σ 3 (cO σ (zN p) (zN c)), dRd σ (zN p) (zN c)) else (-5, vio σ (rdK σ (zN p) (zN c)) c)) else (-2, σ)
def k_write (σ : MS) (p c v : Int32) : Int32 × MS := if isC σ p c = true ∧ 0 ≤ v ∧ v ≤ 99 then (if wrK σ (zN p) (zN c) = 0 then (σ 3 (cO σ (zN p) (zN c)), ms_u (dWr σ (zN p) (zN c)) 3 (cO σ (zN p) (zN c)) v) else (-5, vio σ (wrK σ (zN p) (zN c)) c)) else (-2, σ)
def k_alloc (σ : MS) (m : Int32) : Int32 × MS := if 1 ≤ m ∧ m ≤ 8 then (if σ 0 0 = 10 ∨ σ 8 0 = 60 then (-4, σ) else (σ 8 0, alc σ m)) else (-2, σ)
def k_free (σ : MS) (p : Int32) : Int32 × MS := if inb p (zN (σ 8 0)) = true then (match fsV (frK σ (zN p)) (zN (σ 1 (zN (σ 9 (zN p))))) 0 with
    | some i => (-5, vio σ (frK σ (zN p) i) (nI i))
    | none => (σ 1 (zN (σ 9 (zN p))), ms_u σ 2 (zN (σ 9 (zN p))) 1)) else (-2, σ)
def k_enter (σ : MS) : Int32 × MS := if σ 11 0 = 5 then (-4, σ) else (σ 11 0 + 1, ms_u σ 11 0 (σ 11 0 + 1))
def k_leave (σ : MS) : Int32 × MS := if σ 11 0 = 0 then (-3, σ) else (σ 11 0 - 1, ms_u (clr σ 960) 11 0 (σ 11 0 - 1))
def fin (r : Int32 × MS) : Int32 × MS := (r.1, if r.1 = -2 then err r.2 0 else if r.1 = -3 then err r.2 1 else if r.1 = -4 then err r.2 2 else r.2)
theorem fin_2 {σ : MS} : fin (-2, σ) = (-2, err σ 0) := rfl
theorem fin_3 {σ : MS} : fin (-3, σ) = (-3, err σ 1) := rfl
theorem fin_4 {σ : MS} : fin (-4, σ) = (-4, err σ 2) := rfl
theorem fin_5 {σ : MS} : fin (-5, σ) = (-5, σ) := rfl
theorem fin_n {σ : MS} {x : Int32} (h : 0 ≤ x) : fin (x, σ) = (x, σ) := by
  unfold fin
  have h2 : ¬ x = -2 := fun e => absurd h (by rw [e]; decide)
  have h3 : ¬ x = -3 := fun e => absurd h (by rw [e]; decide)
  have h4 : ¬ x = -4 := fun e => absurd h (by rw [e]; decide)
  show (x, if x = -2 then _ else if x = -3 then _ else if x = -4 then _ else _) = _
  rw [if_neg h2, if_neg h3, if_neg h4]
theorem nn_pos {x : Int32} {b : Nat} (h : nn x b) (hb : b < 2 ^ 31) : 0 ≤ x := by
  rw [h.1]
  exact nI_pos' (Nat.lt_of_le_of_lt h.2 hb)
section Fin
variable {B : Nat} {σ κ : MS}
theorem fin_read {p c : Int32} (P : PI B σ κ) : s_read σ p c = fin (k_read σ p c) := by
  unfold s_read k_read
  by_cases h : isC σ p c = true
  · rw [if_pos h, if_pos h]
    obtain ⟨j, i, rfl, rfl, hj⟩ := isC_t P.inv h
    have hp := (P.inv.p60 hj.1)
    have hi := P.inv.cell hj
    split
    · refine (fin_n (P.val _ ?_)).symm
      rw [zN_nI (by omega), zN_nI (by omega)]
      exact hi.2
    · exact fin_5.symm
  · rw [if_neg h, if_neg h, fin_2]
theorem fin_write {p c v : Int32} (P : PI B σ κ) : s_write σ p c v = fin (k_write σ p c v) := by
  unfold s_write k_write
  by_cases h : isC σ p c = true ∧ 0 ≤ v ∧ v ≤ 99
  · rw [if_pos h, if_pos h]
    obtain ⟨j, i, rfl, rfl, hj⟩ := isC_t P.inv h.1
    have hp := (P.inv.p60 hj.1)
    have hi := P.inv.cell hj
    split
    · refine (fin_n (P.val _ ?_)).symm
      rw [zN_nI (by omega), zN_nI (by omega)]
      exact hi.2
    · exact fin_5.symm
  · rw [if_neg h, if_neg h, fin_2]
theorem fin_alloc {m : Int32} (P : PI B σ κ) : s_alloc σ m = fin (k_alloc σ m) := by
  unfold s_alloc k_alloc
  split
  · split
    · exact fin_4.symm
    · exact (fin_n (nn_pos P.inv.nP (by decide))).symm
  · exact fin_2.symm
theorem fin_free {p : Int32} (P : PI B σ κ) : s_free σ p = fin (k_free σ p) := by
  unfold s_free k_free
  by_cases h : inb p (zN (σ 8 0)) = true
  · rw [if_pos h, if_pos h]
    have h2 := P.inv.nP.2
    obtain ⟨j, hj, rfl⟩ := inb_t (by omega) h
    rw [zN_nI (by omega)]
    cases fsV (frK σ j) (zN (σ 1 (zN (σ 9 j)))) 0 with
    | some i => exact fin_5.symm
    | none => exact (fin_n (nn_pos (P.inv.cl (P.inv.ow hj).2).1 (by decide))).symm
  · rw [if_neg h, if_neg h, fin_2]
theorem fin_enter (P : PI B σ κ) : s_enter σ = fin (k_enter σ) := by
  unfold s_enter k_enter
  split
  · exact fin_4.symm
  · refine (fin_n ?_).symm
    have h := P.inv.dp
    rw [(zN_s h (by decide)).1]
    exact nI_pos' (by have := h.2; omega)
theorem fin_leave (P : PI B σ κ) : s_leave σ = fin (k_leave σ) := by
  unfold s_leave k_leave
  split
  · exact fin_3.symm
  · next h =>
    refine (fin_n ?_).symm
    have hd := P.inv.dp
    obtain ⟨m, hm⟩ : ∃ m, zN (σ 11 0) = m + 1 := ⟨zN (σ 11 0) - 1, by
      have : zN (σ 11 0) ≠ 0 := fun e => h (by rw [hd.1, e]; rfl)
      omega⟩
    rw [hd.1, hm, nI_pred]
    exact nI_pos' (by have := hd.2; omega)
end Fin
