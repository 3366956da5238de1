/-! what a call leaves of the mark of a script and of the number of allocations -/
section LawP
variable {σ : MS}
/-- a call keeps the two rows that the law's budget looks at -/
def Kp (σ σ' : MS) : Prop := σ' 16 0 = 0 ∧ zN (σ' 0 0) = zN (σ 0 0)
theorem Kp.of {σ' : MS} (h16 : σ 16 0 = 0) (e : σ' 16 = σ 16) (e0 : σ' 0 = σ 0) : Kp σ σ' := ⟨by rw [e]; exact h16, by rw [e0]⟩
theorem Kp.er {j : Nat} (h16 : σ 16 0 = 0) : Kp σ (err σ j) := Kp.of h16 (err_k (by decide)) (err_k (by decide))
theorem Kp.rf (h16 : σ 16 0 = 0) : Kp σ σ := ⟨h16, rfl⟩
theorem kp_ckR {p c : Int32} (h16 : σ 16 0 = 0) : Kp σ (s_ckR σ p c).2 := by
  unfold s_ckR
  split
  · exact Kp.rf h16
  · exact Kp.er h16
theorem kp_ckW {p c : Int32} (h16 : σ 16 0 = 0) : Kp σ (s_ckW σ p c).2 := by
  unfold s_ckW
  split
  · exact Kp.rf h16
  · exact Kp.er h16
theorem kp_ckF {p : Int32} (h16 : σ 16 0 = 0) : Kp σ (s_ckF σ p).2 := by
  unfold s_ckF
  split
  · cases fsV (frK σ (zN p)) (zN (σ 1 (zN (σ 9 (zN p))))) 0 with
    | some i => exact Kp.rf h16
    | none => exact Kp.rf h16
  · exact Kp.er h16
theorem kp_rmv {p c : Int32} (h16 : σ 16 0 = 0) : Kp σ (s_rmv σ p c).2 := by
  unfold s_rmv
  split
  · split
    · cases gr σ (cO σ (zN p) (zN c)) (nI (zN p)) true with
      | some i => exact Kp.rf h16
      | none => exact Kp.rf h16
    · exact Kp.rf h16
  · exact Kp.er h16
theorem kp_siz {a c : Int32} (h16 : σ 16 0 = 0) : Kp σ (s_siz σ a c).2 := by
  unfold s_siz
  split
  · exact Kp.rf h16
  · exact Kp.er h16
theorem kp_itm {k : Nat} {a c x : Int32} (h16 : σ 16 0 = 0) : Kp σ (s_itm σ k a c x).2 := by
  unfold s_itm
  split
  · exact Kp.rf h16
  · exact Kp.er h16
theorem kp_itp {a c x : Int32} (h16 : σ 16 0 = 0) : Kp σ (s_itp σ a c x).2 := by
  unfold s_itp
  by_cases h : isI σ a c x = true
  · rw [if_pos h]
    exact Kp.rf h16
  · rw [if_neg h]
    exact Kp.er h16
theorem kp_ptr {k : Nat} {p : Int32} (h16 : σ 16 0 = 0) : Kp σ (s_ptr σ k p).2 := by
  unfold s_ptr
  split
  · exact Kp.rf h16
  · exact Kp.er h16
theorem kp_liv {p : Int32} (h16 : σ 16 0 = 0) : Kp σ (s_liv σ p).2 := by
  unfold s_liv
  split
  · exact Kp.rf h16
  · exact Kp.er h16
theorem kp_frd {a : Int32} (h16 : σ 16 0 = 0) : Kp σ (s_frd σ a).2 := by
  unfold s_frd
  by_cases h : inb a (zN (σ 0 0)) = true
  · rw [if_pos h]
    exact Kp.rf h16
  · rw [if_neg h]
    exact Kp.er h16
theorem kp_erc {k : Int32} (h16 : σ 16 0 = 0) : Kp σ (s_erc σ k).2 := by
  unfold s_erc
  split
  · exact Kp.rf h16
  · exact Kp.er h16
theorem kp_app {v : Int32} (h16 : σ 16 0 = 0) : Kp σ (s_app σ v).2 := by
  unfold s_app
  split
  · split
    · exact Kp.er h16
    · refine Kp.of h16 ?_ ?_
      · show ms_u (ms_u σ 17 (zN (σ 18 0)) v) 18 0 (σ 18 0 + 1) 16 = σ 16
        rw [ms_u_n (by decide), ms_u_n (by decide)]
      · show ms_u (ms_u σ 17 (zN (σ 18 0)) v) 18 0 (σ 18 0 + 1) 0 = σ 0
        rw [ms_u_n (by decide), ms_u_n (by decide)]
  · exact Kp.er h16
theorem kp_clt (h16 : σ 16 0 = 0) : Kp σ (s_clt σ).2 := by
  refine Kp.of h16 ?_ ?_
  · show ms_u σ 18 0 0 16 = σ 16
    rw [ms_u_n (by decide)]
  · show ms_u σ 18 0 0 0 = σ 0
    rw [ms_u_n (by decide)]
theorem kp_read {p c : Int32} (hI : mInv σ) (h16 : σ 16 0 = 0) : Kp σ (s_read σ p c).2 := by
  refine Kp.of h16 ((ok_read hI).2 16 (Or.inl rfl)) ?_
  unfold s_read
  split
  · split
    · exact dRd_n (σ := σ) (p := zN p) (i := zN c) (k := 0) (by decide)
    · exact vio_k (σ := σ) (a := rdK σ (zN p) (zN c)) (b := c) (k := 0) (by decide)
  · rfl
theorem kp_write {p c v : Int32} (hI : mInv σ) (h16 : σ 16 0 = 0) : Kp σ (s_write σ p c v).2 := by
  refine Kp.of h16 ((ok_write hI).2 16 (Or.inl rfl)) ?_
  unfold s_write
  split
  · split
    · show ms_u (dWr σ (zN p) (zN c)) 3 (cO σ (zN p) (zN c)) v 0 = _
      rw [ms_u_n (by decide), dWr_n (by decide)]
    · exact vio_k (σ := σ) (a := wrK σ (zN p) (zN c)) (b := c) (k := 0) (by decide)
  · rfl
theorem kp_reb {p kd fr ct pr : Int32} (hI : mInv σ) (h16 : σ 16 0 = 0) : Kp σ (s_reb σ p kd fr ct pr).2 := by
  refine Kp.of h16 ((ok_reb hI).2 16 (Or.inl rfl)) ?_
  unfold s_reb
  split
  · split
    · rfl
    · cases fsV (rbK σ (zN p) kd) (zN ct) (zN fr) with
      | some i => exact vio_k (σ := σ) (a := rbK σ (zN p) kd i) (b := nI i) (k := 0) (by decide)
      | none =>
        show (if _ then _ else _ : Int32 × MS).2 0 = _
        split
        · show nwP (pts σ (zN p) kd (if pr = 1 then σ 11 0 else 0) (zN ct) (zN fr)) (σ 9 (zN p)) p 0 = _
          rw [nwP_n (by decide), pts_n (by decide)]
        · rfl
  · rfl
theorem kp_free {p : Int32} (hI : mInv σ) (h16 : σ 16 0 = 0) : Kp σ (s_free σ p).2 := by
  refine Kp.of h16 ((ok_free hI).2 16 (Or.inl rfl)) ?_
  unfold s_free
  split
  · cases fsV (frK σ (zN p)) (zN (σ 1 (zN (σ 9 (zN p))))) 0 with
    | some i => exact vio_k (σ := σ) (a := frK σ (zN p) i) (b := nI i) (k := 0) (by decide)
    | none => exact ms_u_n (σ := σ) (k := 2) (i := zN (σ 9 (zN p))) (x := 1) (k' := 0) (by decide)
  · rfl
theorem kp_enter (hI : mInv σ) (h16 : σ 16 0 = 0) : Kp σ (s_enter σ).2 := by
  refine Kp.of h16 ((ok_enter hI).2 16 (Or.inl rfl)) ?_
  unfold s_enter
  split
  · rfl
  · exact ms_u_n (σ := σ) (k := 11) (i := 0) (x := σ 11 0 + 1) (k' := 0) (by decide)
theorem kp_leave (hI : mInv σ) (h16 : σ 16 0 = 0) : Kp σ (s_leave σ).2 := by
  refine Kp.of h16 ((ok_leave hI).2 16 (Or.inl rfl)) ?_
  unfold s_leave
  split
  · rfl
  · show ms_u (clr σ 960) 11 0 (σ 11 0 - 1) 0 = _
    rw [ms_u_n (by decide), clr_n (by decide)]
/-- a call may make allocations, up to ten -/
def Km (σ σ' : MS) : Prop := σ' 16 0 = 0 ∧ zN (σ 0 0) ≤ zN (σ' 0 0) ∧ zN (σ' 0 0) ≤ 10
theorem Kp.m {σ' : MS} (hI : mInv σ) (k : Kp σ σ') : Km σ σ' := ⟨k.1, Nat.le_of_eq k.2.symm, by rw [k.2]; exact hI.nA.2⟩
theorem km_alloc {x : Int32} (hI : mInv σ) (h16 : σ 16 0 = 0) : Km σ (s_alloc σ x).2 := by
  have o := ok_alloc (m := x) hI
  refine ⟨(congrFun (o.2 16 (Or.inl rfl)) 0).trans h16, ?_, o.1.nA.2⟩
  have := mono_s (c := 97) (x := x) (y := 0) (z := 0) hI
  unfold s_cmd at this
  rw [if_pos rfl] at this
  exact this
theorem km_run (hI : mInv σ) (h16 : σ 16 0 = 0) : Km σ (s_run σ).2 := by
  refine ⟨?_, ?_, (ok_run hI).nA.2⟩
  · unfold s_run
    split
    · rfl
    · exact (congrFun ((read_ok hI).2 16 (by decide)) 0).trans h16
  · have e0 : zN ((t_read σ).2 0 0) = zN (σ 0 0) := by rw [(read_ok hI).2 0 (by decide)]
    unfold s_run
    split
    · show _ ≤ zN (ms_u _ 16 0 0 0 0)
      rw [ms_u_n (by decide), ← e0]
      have mo := exa_mono (zN ((t_read σ).2 21 0)) 0 (ms_u (t_read σ).2 16 0 1) (mInv_u (read_ok hI).1.1 (by decide))
      rw [ms_u_n (show 0 ≠ 16 by decide)] at mo
      exact mo
    · exact Nat.le_of_eq e0.symm
end LawP
