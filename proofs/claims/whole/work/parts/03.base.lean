/-! A judgement over the kit's W: the heap is a map from addresses to cells, all else of the machine is hidden. bs_B: from this frame the method comes to a return with Q. bs_Sp: a method's contract at these arguments and this heap. -/
abbrev Hp : Type := Nat → Option va_E
abbrev GG : Type := va_G × (Nat → ClassId) × Nat
abbrev MI : Type := MethodName × ByteArray × Nat × Option FieldType × Nat
def bs_okw : Cond → Bool
  | .arrayClass _ => true
  | .arrayOver (.object _) => true
  | .fieldLinkNest _ _ _ _ _ _ => true
  | .methodLinkNest _ _ _ _ => true
  | w => w.onTables && w.keeps
def bs_TB (U : State) : Prop := ∀ w ∈ lw_tbl, bs_okw w = true → ∀ a : Array Value, w.before a U = true
theorem bs_TB.warm {s U : State} (hW : s.WarmedH U.vm) (h : bs_TB s) : bs_TB U := by
  intro w hw hk a
  have h0 := h w hw hk #[]
  cases w with
  | arrayClass ty => exact word_at hW (Or.inr ⟨ty, rfl⟩) h0
  | arrayOver t =>
    cases t with
    | object C => exact va_AO.use (va_AO.moved hW.alike h0)
    | _ => exact word_at hW (Or.inl hk) h0
  | fieldLinkNest _ _ _ _ _ _ => exact va_Nw.use rfl (va_Nw.warmF hW h0)
  | methodLinkNest _ _ _ _ => exact va_Nw.use rfl (va_Nw.warmM hW h0)
  | _ => exact word_at hW (Or.inl hk) h0
def bs_TYS (ct : Nat → ClassId) : List (ClassId × FieldType) := [(ct 0, .int), (ct 1, .boolean), (ct 2, .object RX0), (ct 3, .object RX3), (ct 4, .object RX2)]
def bs_SW (G : GG) (U : State) : Prop := va_K G.1 vwCl (bs_TYS G.2.1) U ∧ bs_TB U ∧ G.2.2 ≤ U.heap.size
def bs_H (G : GG) (h : Hp) (H : Heap) : Prop := ∃ ws : va_W, va_P G.1 vwCl ws H ∧ va_D (fun q => G.2.2 ≤ q) ws ∧ ∀ (a : Nat) (e : va_E), h a = some e → ∃ k : Nat, ws[k]? = some (a, e)
def bs_rfit (r : Option FieldType) (v : Option Value) : Prop := match v with
  | none => r = none
  | some (.int x) => ∃ ty, r = some ty ∧ narrow ty (.int x) = .int x
  | some (.long _) => r = some .long
  | some (.ref _) => ∃ n, r = some (.object n)
  | some .null => ∃ n, r = some (.object n)
  | _ => False
def bs_rdec (cc : ByteArray) (pc : Nat) (v : Option Value) : Prop := match v with
  | none => decode cc pc = .ok (.return_, 1)
  | some (.int _) => decode cc pc = .ok (.ireturn, 1)
  | some (.long _) => decode cc pc = .ok (.lreturn, 1)
  | some (.ref _) => decode cc pc = .ok (.areturn, 1)
  | some .null => decode cc pc = .ok (.areturn, 1)
  | _ => False
def bs_Cx (G : GG) (X : State → Prop) (M : MI) (d : Nat) (p : Program) (R : Room) (s : State) (m : MethodId) (meth : Method) (c : Code) : Prop :=
  p.tables.exec = Jvm.exec ∧ c.code = M.2.1 ∧ c.maxLocals = M.2.2.1 ∧ s.vm.findClass M.1.cls = some m.cls ∧ bs_SW G s ∧ X s ∧ d ≤ R.frames ∧ 37 * d ≤ R.locals ∧ meth.locks = false ∧ meth.name = M.1.name
def bs_B (G : GG) (X : State → Prop) (M : MI) (d bc bs : Nat) (h : Hp) (pc : Nat) (lv : List (Nat × Value)) (st : List Value) (Q : Option Value → Hp → Prop) : Prop :=
  ∀ (p : Program) (l : Launch) (e : Env) (R : Room) (s : State) (m : MethodId) (args : Array Value) (below : List Frame) (meth : Method) (c : Code) (H : Heap) (locs : List Loc) (cells slots : Nat) (QQ : State → Prop) (ls : Array Slot),
    bs_Cx G X M d p R s m meth c → bs_H G h H → va_S (fun q => G.2.2 ≤ q) s.heap H locs → cells + bc ≤ R.cells → slots + bs ≤ R.slots → lv_has ls M.2.2.1 lv →
    (∀ (v : Option Value) (h' : Hp) (H' : Heap) (locs' : List Loc) (cells' slots' pc' : Nat) (ls' : Array Slot), Q v h' → bs_H G h' H' → va_S (fun q => G.2.2 ≤ q) s.heap H' locs' → cells' ≤ cells + bc → slots' ≤ slots + bs → bs_rfit M.2.2.2.1 v → bs_rdec M.2.1 pc' v →
      W p l e R s m args below meth c H' locs' cells' slots' QQ (F0 m pc' ls' v.toList)) →
    W p l e R s m args below meth c H locs cells slots QQ (F0 m pc ls st)
def bs_rm (d bc bs : Nat) : Room := { frames := d, cells := bc, slots := bs, locals := 37 * d }
def bs_Pc (G : GG) (vs : List Value) (h : Hp) : Array Value → State → Prop := va_Pc vs (fun U => bs_H G h U.heap ∧ bs_SW G U)
def bs_Qc (G : GG) (Q : Option Value → Hp → Prop) : Array Value → State → Outcome → State → Prop := fun _ st oc t => (∃ (v : Option Value) (h' : Hp), oc = .returned v ∧ Q v h' ∧ bs_H G h' t.heap) ∧ va_F (fun q => G.2.2 ≤ q) st t
def bs_Sp (G : GG) (M : MI) (d bc bs : Nat) (vs : List Value) (h : Hp) (Q : Option Value → Hp → Prop) : Prop :=
  ∀ l : Launch, Met l M.1 [.code M.1 M.2.1 M.2.2.1 M.2.2.2.1] (bs_rm d bc bs) (bs_Pc G vs h) (bs_Qc G Q) bc bs (fun q => G.2.2 ≤ q)
theorem bs_Pc.blind {G : GG} {vs : List Value} {h : Hp} : FrameBlind (bs_Pc G vs h) := by
  intro a U g mk ⟨h1, h2, h3, h4, h5⟩
  exact ⟨h1, h2, va_K.moved (u := U) (U := U.calling g mk a) (Vm.Alike.refl U.vm) h3, bs_TB.warm (s := U) (U := U.calling g mk a) (State.WarmedH.refl U) h4, h5⟩
theorem bs_SW.warm {G : GG} {s U : State} (hW : s.WarmedH U.vm) (hz : G.2.2 ≤ U.heap.size) (h : bs_SW G s) : bs_SW G U := ⟨va_K.moved hW.alike h.1, bs_TB.warm hW h.2.1, hz⟩
set_option maxHeartbeats 1000000 in
theorem bs_Sp.of {G : GG} {M : MI} {d bc bs : Nat} {vs : List Value} {h : Hp} {Q : Option Value → Hp → Prop} (hy : plainName M.1.cls = true) (hn' : Nat.ble (lg_sl vs).length M.2.2.1 = true) (hB : bs_B G (fun _ => True) M d bc bs h 0 (lv_args 0 vs) [] Q) : bs_Sp G M d bc bs vs h Q := by
  intro l
  have hn := Nat.le_of_ble_eq_true hn'
  refine Met.ofW (cc := M.2.1) (maxL := M.2.2.1) (ret := M.2.2.2.1) hy rfl ?_
  intro p e s m args below meth c s₁ B hml hv
  obtain ⟨rfl, hH, hSW⟩ := hv
  have hl := lv_entry vs (n := M.2.2.1) hn
  rw [lg_entry_eq]
  generalize (lg_sl vs ++ List.replicate (M.2.2.1 - (lg_sl vs).length) Slot.unset).toArray = ls at hl ⊢
  have hlocks := B.notSynchronized
  have hx := B.exec
  have hb := B.bytes
  have hr := B.returns
  refine hB p l e _ s m _ below meth c s.heap [] 0 0 _ ls ⟨hx, hb, hml, findClass_of_methodNamed B.named, hSW, trivial, Nat.le_refl d, Nat.le_refl _, hlocks, (name_of_methodNamed B.named B.method).1⟩ hH va_S.rf (Nat.le_of_eq (Nat.zero_add bc)) (Nat.le_of_eq (Nat.zero_add bs)) hl ?_
  intro v h' H' locs' cells' slots' pc' ls' hQ hH' hS hc hs hf hd
  have hc : cells' ≤ bc := Nat.le_trans hc (Nat.le_of_eq (Nat.zero_add bc))
  have hs : slots' ≤ bs := Nat.le_trans hs (Nat.le_of_eq (Nat.zero_add bs))
  refine W.widen (k := bc) (n := bs) hc hs ?_
  have key : ∀ t : State, t.heap = H' → s.WarmedH t.vm → bs_Qc G Q vs.toArray s (.returned v) t := fun t ht hW => ⟨⟨v, h', rfl, hQ, by rw [ht]; exact hH'⟩, hS.F ht⟩
  match v, hf, hd, key with
  | none, hf, hd, key => exact W.vret hx hb (hr.trans hf) key hS.2.2 hd
  | some (.int x), hf, hd, key =>
    obtain ⟨ty, h1, h2⟩ := hf
    exact W.zret hx hb (hr.trans h1) h2 key hS.2.2 hd
  | some (.long x), hf, hd, key => exact W.lret hx hb (hr.trans hf) key hS.2.2 hd
  | some (.ref x), hf, hd, key =>
    obtain ⟨n, h1⟩ := hf
    exact W.aret hx hb (hr.trans h1) (Or.inl ⟨n, rfl⟩) (Or.inr ⟨x, rfl⟩) key hS.2.2 hd
  | some .null, hf, hd, key =>
    obtain ⟨n, h1⟩ := hf
    exact W.aret hx hb (hr.trans h1) (Or.inl ⟨n, rfl⟩) (Or.inl rfl) key hS.2.2 hd
  | some (.float _), hf, _, _ => exact absurd hf id
  | some (.double _), hf, _, _ => exact absurd hf id
theorem bs_Sp.mono {G : GG} {M : MI} {d bc bs : Nat} {vs : List Value} {h : Hp} {Q Q' : Option Value → Hp → Prop} (hs : bs_Sp G M d bc bs vs h Q) (hq : ∀ v h', Q v h' → Q' v h') : bs_Sp G M d bc bs vs h Q' := by
  intro l p e ha hc hk s m args below hf happ hP hK
  obtain ⟨k, o, h1, h2, h3, ⟨⟨v, h', e1, e2, e3⟩, hF⟩, h5⟩ := hs l p e ha hc hk s m args below hf happ hP hK
  exact ⟨k, o, h1, h2, h3, ⟨⟨v, h', e1, hq v h' e2, e3⟩, hF⟩, h5⟩
theorem bs_B.mono {G : GG} {X : State → Prop} {M : MI} {d bc bs : Nat} {h : Hp} {pc : Nat} {lv : List (Nat × Value)} {st : List Value} {Q Q' : Option Value → Hp → Prop} (hb : bs_B G X M d bc bs h pc lv st Q) (hq : ∀ v h', Q v h' → Q' v h') : bs_B G X M d bc bs h pc lv st Q' := by
  intro p l e R s m args below meth c H locs cells slots QQ ls C hH hS hc hs hl hr
  exact hb p l e R s m args below meth c H locs cells slots QQ ls C hH hS hc hs hl (fun v h' H' locs' cells' slots' pc' ls' q => hr v h' H' locs' cells' slots' pc' ls' (hq v h' q))
/-! locals -/
def bs_lg : List (Nat × Value) → Nat → Option Value
  | [], _ => none
  | q :: r, i => bif q.1 == i then some q.2 else bs_lg r i
def bs_li (q : Nat × Value) : List (Nat × Value) → List (Nat × Value)
  | [] => [q]
  | r :: l => bif Nat.blt r.1 q.1 then r :: bs_li q l else q :: r :: l
def bs_lp (i : Nat) (v : Value) (lv : List (Nat × Value)) : List (Nat × Value) := bs_li (i, v) (lv.filter (fun q => !(q.1 == i) && !(q.1 + 1 == i && q.2.category == 2)))
def bs_lq (i : Nat) (v : Value) (lv : List (Nat × Value)) : List (Nat × Value) := bs_li (i, v) (lv.filter (fun q => !(q.1 == i) && (!(q.1 == i + 1) && !(q.1 + 1 == i && q.2.category == 2))))
theorem bs_lg_mem {i : Nat} {v : Value} : ∀ {lv : List (Nat × Value)}, bs_lg lv i = some v → (i, v) ∈ lv
  | [], h => by cases h
  | q :: r, h => by
    unfold bs_lg at h
    by_cases hq : q.1 == i
    · rw [hq] at h
      have h1 : q.2 = v := Option.some.inj h
      have h2 : q.1 = i := by simpa using hq
      rw [← h1, ← h2]
      exact List.mem_cons_self
    · rw [show (q.1 == i) = false by simpa using hq] at h
      exact List.mem_cons_of_mem _ (bs_lg_mem (lv := r) h)
theorem bs_lg_at {ls : Array Slot} {n i : Nat} {v : Value} {lv : List (Nat × Value)} (h : lv_has ls n lv) (hg : bs_lg lv i = some v) : ls[i]? = some (.val v) := h.2.2 (i, v) (bs_lg_mem hg)
theorem bs_li_mem {q x : Nat × Value} : ∀ {l : List (Nat × Value)}, x ∈ bs_li q l → x ∈ q :: l
  | [], h => h
  | r :: l, h => by
    unfold bs_li at h
    cases hb : Nat.blt r.1 q.1 with
    | true =>
      rw [hb] at h
      rcases List.mem_cons.mp h with h | h
      · rw [h]; exact List.mem_cons_of_mem _ List.mem_cons_self
      · rcases List.mem_cons.mp (bs_li_mem (l := l) h) with h | h
        · rw [h]; exact List.mem_cons_self
        · exact List.mem_cons_of_mem _ (List.mem_cons_of_mem _ h)
    | false =>
      rw [hb] at h
      exact h
theorem bs_li_has {ls : Array Slot} {n : Nat} {q : Nat × Value} {l : List (Nat × Value)} (h : lv_has ls n (q :: l)) : lv_has ls n (bs_li q l) := ⟨h.1, h.2.1, fun x hx => h.2.2 x (bs_li_mem hx)⟩
section BsRows
variable {G : GG} {X : State → Prop} {M : MI} {d bc bs : Nat} {h : Hp} {pc : Nat} {lv : List (Nat × Value)} {st : List Value} {Q : Option Value → Hp → Prop}
/-- an instruction that leaves the heap -/
theorem bs_pure {pc' : Nat} {lv' : List (Nat × Value)} {st' : List Value}
    (step : ∀ (p : Program) (l : Launch) (e : Env) (R : Room) (s : State) (m : MethodId) (args : Array Value) (below : List Frame) (meth : Method) (c : Code) (H : Heap) (locs : List Loc) (cells slots : Nat) (QQ : State → Prop) (ls : Array Slot),
      bs_Cx G X M d p R s m meth c → lv_has ls M.2.2.1 lv → (∀ ls' : Array Slot, lv_has ls' M.2.2.1 lv' → W p l e R s m args below meth c H locs cells slots QQ (F0 m pc' ls' st')) → W p l e R s m args below meth c H locs cells slots QQ (F0 m pc ls st))
    (k : bs_B G X M d bc bs h pc' lv' st' Q) : bs_B G X M d bc bs h pc lv st Q := by
  intro p l e R s m args below meth c H locs cells slots QQ ls C hH hS hc hs hl hr
  exact step p l e R s m args below meth c H locs cells slots QQ ls C hl (fun ls' hl' => k p l e R s m args below meth c H locs cells slots QQ ls' C hH hS hc hs hl' hr)
/-- fewer locals -/
theorem bs_sub {lv' : List (Nat × Value)} (ks : List Nat) (hk : lv_pick lv ks = lv') (k : bs_B G X M d bc bs h pc lv' st Q) : bs_B G X M d bc bs h pc lv st Q :=
  bs_pure (fun _ _ _ _ _ _ _ _ _ _ _ _ _ _ _ _ _ hl kk => kk _ (lv_sub hl ks hk)) k
theorem bs_iconst {n : Int} {v : Int32} {pc' : Nat} (hd : decode M.2.1 pc = .ok (.iconst n, 1)) (hv : Int32.ofInt n = v) (hp : pc + 1 = pc') (k : bs_B G X M d bc bs h pc' lv (.int v :: st) Q) : bs_B G X M d bc bs h pc lv st Q := by
  subst hp
  exact bs_pure (fun _ _ _ _ _ _ _ _ _ _ _ _ _ _ _ _ C hl kk => lv_iconst C.1 C.2.1 hd hv (kk _ hl)) k
theorem bs_bipush {n : Int} {v : Int32} {pc' : Nat} (hd : decode M.2.1 pc = .ok (.bipush n, 2)) (hv : (Int8.ofInt n).toInt32 = v) (hp : pc + 2 = pc') (k : bs_B G X M d bc bs h pc' lv (.int v :: st) Q) : bs_B G X M d bc bs h pc lv st Q := by
  subst hp
  exact bs_pure (fun _ _ _ _ _ _ _ _ _ _ _ _ _ _ _ _ C hl kk => lv_bipush C.1 C.2.1 hd hv (kk _ hl)) k
theorem bs_sipush {n : Int} {v : Int32} {pc' : Nat} (hd : decode M.2.1 pc = .ok (.sipush n, 3)) (hv : (Int16.ofInt n).toInt32 = v) (hp : pc + 3 = pc') (k : bs_B G X M d bc bs h pc' lv (.int v :: st) Q) : bs_B G X M d bc bs h pc lv st Q := by
  subst hp
  exact bs_pure (fun _ _ _ _ _ _ _ _ _ _ _ _ _ _ _ _ C hl kk => lv_sipush C.1 C.2.1 hd hv (kk _ hl)) k
theorem bs_lconst {n : Fin 2} {v : Int64} {pc' : Nat} (hd : decode M.2.1 pc = .ok (.lconst n, 1)) (hv : Int64.ofNat (n : Nat) = v) (hp : pc + 1 = pc') (k : bs_B G X M d bc bs h pc' lv (.long v :: st) Q) : bs_B G X M d bc bs h pc lv st Q := by
  subst hp
  exact bs_pure (fun _ _ _ _ _ _ _ _ _ _ _ _ _ _ _ _ C hl kk => lv_lconst C.1 C.2.1 hd hv (kk _ hl)) k
theorem bs_null {pc' : Nat} (hd : decode M.2.1 pc = .ok (.aconst_null, 1)) (hp : pc + 1 = pc') (k : bs_B G X M d bc bs h pc' lv (.null :: st) Q) : bs_B G X M d bc bs h pc lv st Q := by
  subst hp
  exact bs_pure (fun _ _ _ _ _ _ _ _ _ _ _ _ _ _ _ _ C hl kk => lv_null C.1 C.2.1 hd (kk _ hl)) k
theorem bs_ldc2 {i : Nat} {v : Int64} {pc' : Nat} (hw : Cond.constantLong M.1.cls i v ∈ lw_tbl) (hd : decode M.2.1 pc = .ok (.ldc2_w i, 3)) (hp : pc + 3 = pc') (k : bs_B G X M d bc bs h pc' lv (.long v :: st) Q) : bs_B G X M d bc bs h pc lv st Q := by
  subst hp
  exact bs_pure (fun _ _ _ _ _ _ args _ _ _ _ _ _ _ _ _ C hl kk => lv_ldc2 C.1 C.2.1 C.2.2.2.1 (C.2.2.2.2.1.2.1 _ hw rfl args) hd (kk _ hl)) k
theorem bs_iload_n {i : Fin 4} {x : Int32} {pc' : Nat} (hd : decode M.2.1 pc = .ok (.iload_n i, 1)) (hg : bs_lg lv (i : Nat) = some (.int x)) (hp : pc + 1 = pc') (k : bs_B G X M d bc bs h pc' lv (.int x :: st) Q) : bs_B G X M d bc bs h pc lv st Q := by
  subst hp
  exact bs_pure (fun _ _ _ _ _ _ _ _ _ _ _ _ _ _ _ _ C hl kk => lv_iload_n C.1 C.2.1 hd rfl (bs_lg_at hl hg) (kk _ hl)) k
theorem bs_iload {i : Nat} {x : Int32} {pc' : Nat} (hd : decode M.2.1 pc = .ok (.iload i, 2)) (hg : bs_lg lv i = some (.int x)) (hp : pc + 2 = pc') (k : bs_B G X M d bc bs h pc' lv (.int x :: st) Q) : bs_B G X M d bc bs h pc lv st Q := by
  subst hp
  exact bs_pure (fun _ _ _ _ _ _ _ _ _ _ _ _ _ _ _ _ C hl kk => lv_iload C.1 C.2.1 hd (bs_lg_at hl hg) (kk _ hl)) k
theorem bs_lload_n {i : Fin 4} {x : Int64} {pc' : Nat} (hd : decode M.2.1 pc = .ok (.lload_n i, 1)) (hg : bs_lg lv (i : Nat) = some (.long x)) (hp : pc + 1 = pc') (k : bs_B G X M d bc bs h pc' lv (.long x :: st) Q) : bs_B G X M d bc bs h pc lv st Q := by
  subst hp
  exact bs_pure (fun _ _ _ _ _ _ _ _ _ _ _ _ _ _ _ _ C hl kk => lv_lload_n C.1 C.2.1 hd rfl (bs_lg_at hl hg) (kk _ hl)) k
theorem bs_lload {i : Nat} {x : Int64} {pc' : Nat} (hd : decode M.2.1 pc = .ok (.lload i, 2)) (hg : bs_lg lv i = some (.long x)) (hp : pc + 2 = pc') (k : bs_B G X M d bc bs h pc' lv (.long x :: st) Q) : bs_B G X M d bc bs h pc lv st Q := by
  subst hp
  exact bs_pure (fun _ _ _ _ _ _ _ _ _ _ _ _ _ _ _ _ C hl kk => lv_lload C.1 C.2.1 hd (bs_lg_at hl hg) (kk _ hl)) k
/-- a reference's value: an address, or null -/
def bs_isr : Value → Bool
  | .ref _ => true
  | .null => true
  | _ => false
theorem bs_aload_n {i : Fin 4} {x : Value} {pc' : Nat} (hd : decode M.2.1 pc = .ok (.aload_n i, 1)) (hg : bs_lg lv (i : Nat) = some x) (hx : bs_isr x = true) (hp : pc + 1 = pc') (k : bs_B G X M d bc bs h pc' lv (x :: st) Q) : bs_B G X M d bc bs h pc lv st Q := by
  subst hp
  refine bs_pure (fun _ _ _ _ _ _ _ _ _ _ _ _ _ _ _ _ C hl kk => ?_) k
  cases x with
  | ref a => exact lv_aload_n C.1 C.2.1 hd rfl (bs_lg_at hl hg) (kk _ hl)
  | null => exact lv_aload_nN C.1 C.2.1 hd rfl (bs_lg_at hl hg) (kk _ hl)
  | _ => cases hx
theorem bs_aload {i : Nat} {x : Value} {pc' : Nat} (hd : decode M.2.1 pc = .ok (.aload i, 2)) (hg : bs_lg lv i = some x) (hx : bs_isr x = true) (hp : pc + 2 = pc') (k : bs_B G X M d bc bs h pc' lv (x :: st) Q) : bs_B G X M d bc bs h pc lv st Q := by
  subst hp
  refine bs_pure (fun _ _ _ _ _ _ _ _ _ _ _ _ _ _ _ _ C hl kk => ?_) k
  cases x with
  | ref a => exact lv_aload C.1 C.2.1 hd (bs_lg_at hl hg) (kk _ hl)
  | null => exact lv_aloadN C.1 C.2.1 hd (bs_lg_at hl hg) (kk _ hl)
  | _ => cases hx
theorem bs_istore_n {i : Fin 4} {x : Int32} {pc' : Nat} {lv' : List (Nat × Value)} (hd : decode M.2.1 pc = .ok (.istore_n i, 1)) (hn : Nat.blt i M.2.2.1 = true) (hl' : bs_lp i (.int x) lv = lv') (hp : pc + 1 = pc') (k : bs_B G X M d bc bs h pc' lv' st Q) : bs_B G X M d bc bs h pc lv (.int x :: st) Q := by
  subst hp; subst hl'
  exact bs_pure (fun _ _ _ _ _ _ _ _ _ _ _ _ _ _ _ _ C hl kk => lv_istore_n C.1 C.2.1 hd rfl hl (Nat.le_of_ble_eq_true hn) rfl (fun ls' h' => kk _ (bs_li_has h'))) k
theorem bs_istore {i : Nat} {x : Int32} {pc' : Nat} {lv' : List (Nat × Value)} (hd : decode M.2.1 pc = .ok (.istore i, 2)) (hn : Nat.blt i M.2.2.1 = true) (hl' : bs_lp i (.int x) lv = lv') (hp : pc + 2 = pc') (k : bs_B G X M d bc bs h pc' lv' st Q) : bs_B G X M d bc bs h pc lv (.int x :: st) Q := by
  subst hp; subst hl'
  exact bs_pure (fun _ _ _ _ _ _ _ _ _ _ _ _ _ _ _ _ C hl kk => lv_istore C.1 C.2.1 hd hl (Nat.le_of_ble_eq_true hn) rfl (fun ls' h' => kk _ (bs_li_has h'))) k
theorem bs_lstore_n {i : Fin 4} {x : Int64} {pc' : Nat} {lv' : List (Nat × Value)} (hd : decode M.2.1 pc = .ok (.lstore_n i, 1)) (hn : Nat.blt (i + 1) M.2.2.1 = true) (hl' : bs_lq i (.long x) lv = lv') (hp : pc + 1 = pc') (k : bs_B G X M d bc bs h pc' lv' st Q) : bs_B G X M d bc bs h pc lv (.long x :: st) Q := by
  subst hp; subst hl'
  exact bs_pure (fun _ _ _ _ _ _ _ _ _ _ _ _ _ _ _ _ C hl kk => lv_lstore_n C.1 C.2.1 hd rfl hl (Nat.le_of_ble_eq_true hn) rfl (fun ls' h' => kk _ (bs_li_has h'))) k
theorem bs_lstore {i : Nat} {x : Int64} {pc' : Nat} {lv' : List (Nat × Value)} (hd : decode M.2.1 pc = .ok (.lstore i, 2)) (hn : Nat.blt (i + 1) M.2.2.1 = true) (hl' : bs_lq i (.long x) lv = lv') (hp : pc + 2 = pc') (k : bs_B G X M d bc bs h pc' lv' st Q) : bs_B G X M d bc bs h pc lv (.long x :: st) Q := by
  subst hp; subst hl'
  exact bs_pure (fun _ _ _ _ _ _ _ _ _ _ _ _ _ _ _ _ C hl kk => lv_lstore C.1 C.2.1 hd hl (Nat.le_of_ble_eq_true hn) rfl (fun ls' h' => kk _ (bs_li_has h'))) k
theorem bs_astore_n {i : Fin 4} {x : Value} {pc' : Nat} {lv' : List (Nat × Value)} (hd : decode M.2.1 pc = .ok (.astore_n i, 1)) (hx : bs_isr x = true) (hn : Nat.blt i M.2.2.1 = true) (hl' : bs_lp i x lv = lv') (hp : pc + 1 = pc') (k : bs_B G X M d bc bs h pc' lv' st Q) : bs_B G X M d bc bs h pc lv (x :: st) Q := by
  subst hp; subst hl'
  refine bs_pure (fun _ _ _ _ _ _ _ _ _ _ _ _ _ _ _ _ C hl kk => ?_) k
  cases x with
  | ref a => exact lv_astore_n C.1 C.2.1 hd rfl hl (Nat.le_of_ble_eq_true hn) rfl (fun ls' h' => kk _ (bs_li_has h'))
  | null => exact lv_astore_nN C.1 C.2.1 hd rfl hl (Nat.le_of_ble_eq_true hn) rfl (fun ls' h' => kk _ (bs_li_has h'))
  | _ => cases hx
theorem bs_astore {i : Nat} {x : Value} {pc' : Nat} {lv' : List (Nat × Value)} (hd : decode M.2.1 pc = .ok (.astore i, 2)) (hx : bs_isr x = true) (hn : Nat.blt i M.2.2.1 = true) (hl' : bs_lp i x lv = lv') (hp : pc + 2 = pc') (k : bs_B G X M d bc bs h pc' lv' st Q) : bs_B G X M d bc bs h pc lv (x :: st) Q := by
  subst hp; subst hl'
  refine bs_pure (fun _ _ _ _ _ _ _ _ _ _ _ _ _ _ _ _ C hl kk => ?_) k
  cases x with
  | ref a => exact lv_astore C.1 C.2.1 hd hl (Nat.le_of_ble_eq_true hn) rfl (fun ls' h' => kk _ (bs_li_has h'))
  | null => exact lv_astoreN C.1 C.2.1 hd hl (Nat.le_of_ble_eq_true hn) rfl (fun ls' h' => kk _ (bs_li_has h'))
  | _ => cases hx
theorem bs_lg_place {lv : List (Nat × Value)} {i : Nat} {v : Value} (hg : bs_lg lv i = some v) : ∃ k : Nat, lv[k]? = some (i, v) := List.getElem?_of_mem (bs_lg_mem hg)
theorem bs_iinc {i : Nat} {n : Int} {x v : Int32} {pc' : Nat} {lv' : List (Nat × Value)} (hd : decode M.2.1 pc = .ok (.iinc i n, 3)) (hg : bs_lg lv i = some (.int x)) (hv : x + Int32.ofInt n = v) (hn : Nat.blt i M.2.2.1 = true) (hl' : bs_lp i (.int v) lv = lv') (hp : pc + 3 = pc') (k : bs_B G X M d bc bs h pc' lv' st Q) : bs_B G X M d bc bs h pc lv st Q := by
  subst hp; subst hl'
  obtain ⟨j, hj⟩ := bs_lg_place hg
  exact bs_pure (fun _ _ _ _ _ _ _ _ _ _ _ _ _ _ _ _ C hl kk => lv_iinc C.1 C.2.1 hd hl hj hv (Nat.le_of_ble_eq_true hn) rfl (fun ls' h' => kk _ (bs_li_has h'))) k
theorem bs_iadd {x y : Int32} {pc' : Nat} (hd : decode M.2.1 pc = .ok (.iadd, 1)) (hp : pc + 1 = pc') (k : bs_B G X M d bc bs h pc' lv (.int (x + y) :: st) Q) : bs_B G X M d bc bs h pc lv (.int y :: .int x :: st) Q := by
  subst hp
  exact bs_pure (fun _ _ _ _ _ _ _ _ _ _ _ _ _ _ _ _ C hl kk => lv_iadd C.1 C.2.1 hd (kk _ hl)) k
theorem bs_isub {x y : Int32} {pc' : Nat} (hd : decode M.2.1 pc = .ok (.isub, 1)) (hp : pc + 1 = pc') (k : bs_B G X M d bc bs h pc' lv (.int (x - y) :: st) Q) : bs_B G X M d bc bs h pc lv (.int y :: .int x :: st) Q := by
  subst hp
  exact bs_pure (fun _ _ _ _ _ _ _ _ _ _ _ _ _ _ _ _ C hl kk => lv_isub C.1 C.2.1 hd (kk _ hl)) k
theorem bs_imul {x y : Int32} {pc' : Nat} (hd : decode M.2.1 pc = .ok (.imul, 1)) (hp : pc + 1 = pc') (k : bs_B G X M d bc bs h pc' lv (.int (x * y) :: st) Q) : bs_B G X M d bc bs h pc lv (.int y :: .int x :: st) Q := by
  subst hp
  exact bs_pure (fun _ _ _ _ _ _ _ _ _ _ _ _ _ _ _ _ C hl kk => lv_imul C.1 C.2.1 hd (kk _ hl)) k
theorem bs_iand {x y : Int32} {pc' : Nat} (hd : decode M.2.1 pc = .ok (.iand, 1)) (hp : pc + 1 = pc') (k : bs_B G X M d bc bs h pc' lv (.int (x &&& y) :: st) Q) : bs_B G X M d bc bs h pc lv (.int y :: .int x :: st) Q := by
  subst hp
  exact bs_pure (fun _ _ _ _ _ _ _ _ _ _ _ _ _ _ _ _ C hl kk => lv_iand C.1 C.2.1 hd (kk _ hl)) k
theorem bs_ladd {x y : Int64} {pc' : Nat} (hd : decode M.2.1 pc = .ok (.ladd, 1)) (hp : pc + 1 = pc') (k : bs_B G X M d bc bs h pc' lv (.long (x + y) :: st) Q) : bs_B G X M d bc bs h pc lv (.long y :: .long x :: st) Q := by
  subst hp
  exact bs_pure (fun _ _ _ _ _ _ _ _ _ _ _ _ _ _ _ _ C hl kk => lv_ladd C.1 C.2.1 hd (kk _ hl)) k
theorem bs_lmul {x y : Int64} {pc' : Nat} (hd : decode M.2.1 pc = .ok (.lmul, 1)) (hp : pc + 1 = pc') (k : bs_B G X M d bc bs h pc' lv (.long (x * y) :: st) Q) : bs_B G X M d bc bs h pc lv (.long y :: .long x :: st) Q := by
  subst hp
  exact bs_pure (fun _ _ _ _ _ _ _ _ _ _ _ _ _ _ _ _ C hl kk => lv_lmul C.1 C.2.1 hd (kk _ hl)) k
theorem bs_i2l {x : Int32} {pc' : Nat} (hd : decode M.2.1 pc = .ok (.i2l, 1)) (hp : pc + 1 = pc') (k : bs_B G X M d bc bs h pc' lv (.long x.toInt64 :: st) Q) : bs_B G X M d bc bs h pc lv (.int x :: st) Q := by
  subst hp
  exact bs_pure (fun _ _ _ _ _ _ _ _ _ _ _ _ _ _ _ _ C hl kk => lv_i2l C.1 C.2.1 hd rfl (kk _ hl)) k
theorem bs_lcmp {x y : Int64} {pc' : Nat} (hd : decode M.2.1 pc = .ok (.lcmp, 1)) (hp : pc + 1 = pc') (k : bs_B G X M d bc bs h pc' lv (.int (lg_cmp x y) :: st) Q) : bs_B G X M d bc bs h pc lv (.long y :: .long x :: st) Q := by
  subst hp
  exact bs_pure (fun _ _ _ _ _ _ _ _ _ _ _ _ _ _ _ _ C hl kk => W.lcmp C.1 C.2.1 hd (kk _ hl)) k
theorem bs_dup {v : Value} {pc' : Nat} (hd : decode M.2.1 pc = .ok (.dup, 1)) (hv : v.category = 1) (hp : pc + 1 = pc') (k : bs_B G X M d bc bs h pc' lv (v :: v :: st) Q) : bs_B G X M d bc bs h pc lv (v :: st) Q := by
  subst hp
  exact bs_pure (fun _ _ _ _ _ _ _ _ _ _ _ _ _ _ _ _ C hl kk => lv_dup C.1 C.2.1 hd hv (kk _ hl)) k
theorem bs_dup2 {v w : Value} {pc' : Nat} (hd : decode M.2.1 pc = .ok (.dup2, 1)) (hv : v.category = 1) (hw : w.category = 1) (hp : pc + 1 = pc') (k : bs_B G X M d bc bs h pc' lv (v :: w :: v :: w :: st) Q) : bs_B G X M d bc bs h pc lv (v :: w :: st) Q := by
  subst hp
  exact bs_pure (fun _ _ _ _ _ _ _ _ _ _ _ _ _ _ _ _ C hl kk => lv_dup2_11 C.1 C.2.1 hd hv hw (kk _ hl)) k
theorem bs_goto {off : Int} {tgt : Nat} (hd : decode M.2.1 pc = .ok (.goto off, 3)) (ht : (pc : Int) + off = (tgt : Int)) (k : bs_B G X M d bc bs h tgt lv st Q) : bs_B G X M d bc bs h pc lv st Q :=
  bs_pure (fun _ _ _ _ _ _ _ _ _ _ _ _ _ _ _ _ C hl kk => lv_goto C.1 C.2.1 hd ht (kk _ hl)) k
theorem bs_ifnull {x : Nat} {off : Int} {pc' : Nat} (hd : decode M.2.1 pc = .ok (.ifnull off, 3)) (hp : pc + 3 = pc') (k : bs_B G X M d bc bs h pc' lv st Q) : bs_B G X M d bc bs h pc lv (.ref x :: st) Q := by
  subst hp
  exact bs_pure (fun _ _ _ _ _ _ _ _ _ _ _ _ _ _ _ _ C hl kk => lv_ifnull C.1 C.2.1 hd (kk _ hl)) k
theorem bs_ifnullN {off : Int} {tgt : Nat} (hd : decode M.2.1 pc = .ok (.ifnull off, 3)) (ht : (pc : Int) + off = (tgt : Int)) (k : bs_B G X M d bc bs h tgt lv st Q) : bs_B G X M d bc bs h pc lv (.null :: st) Q :=
  bs_pure (fun _ _ _ _ _ _ _ _ _ _ _ _ _ _ _ _ C hl kk => lv_ifnullN C.1 C.2.1 hd ht (kk _ hl)) k
theorem bs_ifnonnull {x : Nat} {off : Int} {tgt : Nat} (hd : decode M.2.1 pc = .ok (.ifnonnull off, 3)) (ht : (pc : Int) + off = (tgt : Int)) (k : bs_B G X M d bc bs h tgt lv st Q) : bs_B G X M d bc bs h pc lv (.ref x :: st) Q :=
  bs_pure (fun _ _ _ _ _ _ _ _ _ _ _ _ _ _ _ _ C hl kk => lv_ifnonnull C.1 C.2.1 hd ht (kk _ hl)) k
theorem bs_ifnonnullN {off : Int} {pc' : Nat} (hd : decode M.2.1 pc = .ok (.ifnonnull off, 3)) (hp : pc + 3 = pc') (k : bs_B G X M d bc bs h pc' lv st Q) : bs_B G X M d bc bs h pc lv (.null :: st) Q := by
  subst hp
  exact bs_pure (fun _ _ _ _ _ _ _ _ _ _ _ _ _ _ _ _ C hl kk => lv_ifnonnullN C.1 C.2.1 hd (kk _ hl)) k
theorem bs_switchIn {dflt lo hi : Int} {offs : Array Int} {len : Nat} {x : Int32} {off : Int} {tgt : Nat} (hd : decode M.2.1 pc = .ok (.tableswitch dflt lo hi offs, len)) (h1 : ¬ x.toInt < lo) (h2 : ¬ hi < x.toInt) (ho : offs[(x.toInt - lo).toNat]? = some off) (ht : (pc : Int) + off = (tgt : Int)) (k : bs_B G X M d bc bs h tgt lv st Q) : bs_B G X M d bc bs h pc lv (.int x :: st) Q :=
  bs_pure (fun _ _ _ _ _ _ _ _ _ _ _ _ _ _ _ _ C hl kk => lv_tableIn C.1 C.2.1 hd h1 h2 ho ht (kk _ hl)) k
theorem bs_switchOut {dflt lo hi : Int} {offs : Array Int} {len : Nat} {x : Int32} {tgt : Nat} (hd : decode M.2.1 pc = .ok (.tableswitch dflt lo hi offs, len)) (h1 : x.toInt < lo ∨ hi < x.toInt) (ht : (pc : Int) + dflt = (tgt : Int)) (k : bs_B G X M d bc bs h tgt lv st Q) : bs_B G X M d bc bs h pc lv (.int x :: st) Q :=
  bs_pure (fun _ _ _ _ _ _ _ _ _ _ _ _ _ _ _ _ C hl kk => lv_tableOut C.1 C.2.1 hd h1 ht (kk _ hl)) k
/-- a branch -/
theorem bs_br {t f : Nat} {st' : List Value} {P : Prop}
    (step : ∀ (p : Program) (l : Launch) (e : Env) (R : Room) (s : State) (m : MethodId) (args : Array Value) (below : List Frame) (meth : Method) (c : Code) (H : Heap) (locs : List Loc) (cells slots : Nat) (QQ : State → Prop) (ls : Array Slot),
      p.tables.exec = Jvm.exec → c.code = M.2.1 → (P → W p l e R s m args below meth c H locs cells slots QQ (F0 m t ls st')) → (¬ P → W p l e R s m args below meth c H locs cells slots QQ (F0 m f ls st')) → W p l e R s m args below meth c H locs cells slots QQ (F0 m pc ls st))
    (kt : P → bs_B G X M d bc bs h t lv st' Q) (kf : ¬ P → bs_B G X M d bc bs h f lv st' Q) : bs_B G X M d bc bs h pc lv st Q := by
  intro p l e R s m args below meth c H locs cells slots QQ ls C hH hS hc hs hl hr
  exact step p l e R s m args below meth c H locs cells slots QQ ls C.1 C.2.1 (fun hp => kt hp p l e R s m args below meth c H locs cells slots QQ ls C hH hS hc hs hl hr) (fun hp => kf hp p l e R s m args below meth c H locs cells slots QQ ls C hH hS hc hs hl hr)
theorem bs_if_eq {x : Int32} {off : Int} {tgt pc' : Nat} (hd : decode M.2.1 pc = .ok (.ifCond .eq off, 3)) (ht : (pc : Int) + off = (tgt : Int)) (hp : pc + 3 = pc') (kt : x = 0 → bs_B G X M d bc bs h tgt lv st Q) (kf : ¬ x = 0 → bs_B G X M d bc bs h pc' lv st Q) : bs_B G X M d bc bs h pc lv (.int x :: st) Q := by
  subst hp
  exact bs_br (P := x = 0) (fun _ _ _ _ _ _ _ _ _ _ _ _ _ _ _ _ hx hb a b => lv_if_eq hx hb hd ht a b) kt kf
theorem bs_if_lt {x : Int32} {off : Int} {tgt pc' : Nat} (hd : decode M.2.1 pc = .ok (.ifCond .lt off, 3)) (ht : (pc : Int) + off = (tgt : Int)) (hp : pc + 3 = pc') (kt : x < 0 → bs_B G X M d bc bs h tgt lv st Q) (kf : ¬ x < 0 → bs_B G X M d bc bs h pc' lv st Q) : bs_B G X M d bc bs h pc lv (.int x :: st) Q := by
  subst hp
  exact bs_br (P := x < 0) (fun _ _ _ _ _ _ _ _ _ _ _ _ _ _ _ _ hx hb a b => lv_if_lt hx hb hd ht a b) kt kf
theorem bs_if_ge {x : Int32} {off : Int} {tgt pc' : Nat} (hd : decode M.2.1 pc = .ok (.ifCond .ge off, 3)) (ht : (pc : Int) + off = (tgt : Int)) (hp : pc + 3 = pc') (kt : 0 ≤ x → bs_B G X M d bc bs h tgt lv st Q) (kf : ¬ 0 ≤ x → bs_B G X M d bc bs h pc' lv st Q) : bs_B G X M d bc bs h pc lv (.int x :: st) Q := by
  subst hp
  exact bs_br (P := 0 ≤ x) (fun _ _ _ _ _ _ _ _ _ _ _ _ _ _ _ _ hx hb a b => lv_if_ge hx hb hd ht a b) kt kf
theorem bs_if_gt {x : Int32} {off : Int} {tgt pc' : Nat} (hd : decode M.2.1 pc = .ok (.ifCond .gt off, 3)) (ht : (pc : Int) + off = (tgt : Int)) (hp : pc + 3 = pc') (kt : 0 < x → bs_B G X M d bc bs h tgt lv st Q) (kf : ¬ 0 < x → bs_B G X M d bc bs h pc' lv st Q) : bs_B G X M d bc bs h pc lv (.int x :: st) Q := by
  subst hp
  exact bs_br (P := 0 < x) (fun _ _ _ _ _ _ _ _ _ _ _ _ _ _ _ _ hx hb a b => lv_if_gt hx hb hd ht a b) kt kf
theorem bs_if_le {x : Int32} {off : Int} {tgt pc' : Nat} (hd : decode M.2.1 pc = .ok (.ifCond .le off, 3)) (ht : (pc : Int) + off = (tgt : Int)) (hp : pc + 3 = pc') (kt : x ≤ 0 → bs_B G X M d bc bs h tgt lv st Q) (kf : ¬ x ≤ 0 → bs_B G X M d bc bs h pc' lv st Q) : bs_B G X M d bc bs h pc lv (.int x :: st) Q := by
  subst hp
  exact bs_br (P := x ≤ 0) (fun _ _ _ _ _ _ _ _ _ _ _ _ _ _ _ _ hx hb a b => lv_if_le hx hb hd ht a b) kt kf
theorem bs_if_ne {x : Int32} {off : Int} {tgt pc' : Nat} (hd : decode M.2.1 pc = .ok (.ifCond .ne off, 3)) (ht : (pc : Int) + off = (tgt : Int)) (hp : pc + 3 = pc') (kt : ¬ x = 0 → bs_B G X M d bc bs h tgt lv st Q) (kf : x = 0 → bs_B G X M d bc bs h pc' lv st Q) : bs_B G X M d bc bs h pc lv (.int x :: st) Q := by
  subst hp
  exact bs_br (P := x = 0) (fun _ _ _ _ _ _ _ _ _ _ _ _ _ _ _ _ hx hb a b => lv_if_ne hx hb hd ht b a) kf kt
theorem bs_icmp_eq {x y : Int32} {off : Int} {tgt pc' : Nat} (hd : decode M.2.1 pc = .ok (.if_icmp .eq off, 3)) (ht : (pc : Int) + off = (tgt : Int)) (hp : pc + 3 = pc') (kt : x = y → bs_B G X M d bc bs h tgt lv st Q) (kf : ¬ x = y → bs_B G X M d bc bs h pc' lv st Q) : bs_B G X M d bc bs h pc lv (.int y :: .int x :: st) Q := by
  subst hp
  exact bs_br (P := x = y) (fun _ _ _ _ _ _ _ _ _ _ _ _ _ _ _ _ hx hb a b => lv_icmp_eq hx hb hd ht a b) kt kf
theorem bs_icmp_lt {x y : Int32} {off : Int} {tgt pc' : Nat} (hd : decode M.2.1 pc = .ok (.if_icmp .lt off, 3)) (ht : (pc : Int) + off = (tgt : Int)) (hp : pc + 3 = pc') (kt : x < y → bs_B G X M d bc bs h tgt lv st Q) (kf : ¬ x < y → bs_B G X M d bc bs h pc' lv st Q) : bs_B G X M d bc bs h pc lv (.int y :: .int x :: st) Q := by
  subst hp
  exact bs_br (P := x < y) (fun _ _ _ _ _ _ _ _ _ _ _ _ _ _ _ _ hx hb a b => lv_icmp_lt hx hb hd ht a b) kt kf
theorem bs_icmp_ge {x y : Int32} {off : Int} {tgt pc' : Nat} (hd : decode M.2.1 pc = .ok (.if_icmp .ge off, 3)) (ht : (pc : Int) + off = (tgt : Int)) (hp : pc + 3 = pc') (kt : y ≤ x → bs_B G X M d bc bs h tgt lv st Q) (kf : ¬ y ≤ x → bs_B G X M d bc bs h pc' lv st Q) : bs_B G X M d bc bs h pc lv (.int y :: .int x :: st) Q := by
  subst hp
  exact bs_br (P := y ≤ x) (fun _ _ _ _ _ _ _ _ _ _ _ _ _ _ _ _ hx hb a b => lv_icmp_ge hx hb hd ht a b) kt kf
theorem bs_icmp_gt {x y : Int32} {off : Int} {tgt pc' : Nat} (hd : decode M.2.1 pc = .ok (.if_icmp .gt off, 3)) (ht : (pc : Int) + off = (tgt : Int)) (hp : pc + 3 = pc') (kt : y < x → bs_B G X M d bc bs h tgt lv st Q) (kf : ¬ y < x → bs_B G X M d bc bs h pc' lv st Q) : bs_B G X M d bc bs h pc lv (.int y :: .int x :: st) Q := by
  subst hp
  exact bs_br (P := y < x) (fun _ _ _ _ _ _ _ _ _ _ _ _ _ _ _ _ hx hb a b => lv_icmp_gt hx hb hd ht a b) kt kf
theorem bs_icmp_le {x y : Int32} {off : Int} {tgt pc' : Nat} (hd : decode M.2.1 pc = .ok (.if_icmp .le off, 3)) (ht : (pc : Int) + off = (tgt : Int)) (hp : pc + 3 = pc') (kt : x ≤ y → bs_B G X M d bc bs h tgt lv st Q) (kf : ¬ x ≤ y → bs_B G X M d bc bs h pc' lv st Q) : bs_B G X M d bc bs h pc lv (.int y :: .int x :: st) Q := by
  subst hp
  exact bs_br (P := x ≤ y) (fun _ _ _ _ _ _ _ _ _ _ _ _ _ _ _ _ hx hb a b => lv_icmp_le hx hb hd ht a b) kt kf
theorem bs_icmp_ne {x y : Int32} {off : Int} {tgt pc' : Nat} (hd : decode M.2.1 pc = .ok (.if_icmp .ne off, 3)) (ht : (pc : Int) + off = (tgt : Int)) (hp : pc + 3 = pc') (kt : ¬ x = y → bs_B G X M d bc bs h tgt lv st Q) (kf : x = y → bs_B G X M d bc bs h pc' lv st Q) : bs_B G X M d bc bs h pc lv (.int y :: .int x :: st) Q := by
  subst hp
  exact bs_br (P := x = y) (fun _ _ _ _ _ _ _ _ _ _ _ _ _ _ _ _ hx hb a b => lv_icmp_ne hx hb hd ht b a) kf kt
/-- returns -/
theorem bs_ret {v : Option Value} (hd : bs_rdec M.2.1 pc v) (hf : bs_rfit M.2.2.2.1 v) (hq : Q v h) : bs_B G X M d bc bs h pc lv v.toList Q := by
  intro p l e R s m args below meth c H locs cells slots QQ ls C hH hS hc hs hl hr
  exact hr v h H locs cells slots pc ls hq hH hS (Nat.le_add_right _ _) (Nat.le_add_right _ _) hf hd
theorem bs_vret (hd : decode M.2.1 pc = .ok (.return_, 1)) (hf : M.2.2.2.1 = none) (hq : Q none h) : bs_B G X M d bc bs h pc lv [] Q := bs_ret (v := none) hd hf hq
theorem bs_iret {x : Int32} (hd : decode M.2.1 pc = .ok (.ireturn, 1)) (hf : M.2.2.2.1 = some .int) (hq : Q (some (.int x)) h) : bs_B G X M d bc bs h pc lv [.int x] Q := bs_ret (v := some (.int x)) hd ⟨_, hf, rfl⟩ hq
theorem bs_zret {x : Int32} (hd : decode M.2.1 pc = .ok (.ireturn, 1)) (hf : M.2.2.2.1 = some .boolean) (hx : x = 0 ∨ x = 1) (hq : Q (some (.int x)) h) : bs_B G X M d bc bs h pc lv [.int x] Q := bs_ret (v := some (.int x)) hd ⟨_, hf, by rcases hx with rfl | rfl <;> decide⟩ hq
theorem bs_lret {x : Int64} (hd : decode M.2.1 pc = .ok (.lreturn, 1)) (hf : M.2.2.2.1 = some .long) (hq : Q (some (.long x)) h) : bs_B G X M d bc bs h pc lv [.long x] Q := bs_ret (v := some (.long x)) hd hf hq
theorem bs_aret {x : Nat} {n : String} (hd : decode M.2.1 pc = .ok (.areturn, 1)) (hf : M.2.2.2.1 = some (.object n)) (hq : Q (some (.ref x)) h) : bs_B G X M d bc bs h pc lv [.ref x] Q := bs_ret (v := some (.ref x)) hd ⟨n, hf⟩ hq
theorem bs_aretN {n : String} (hd : decode M.2.1 pc = .ok (.areturn, 1)) (hf : M.2.2.2.1 = some (.object n)) (hq : Q (some .null) h) : bs_B G X M d bc bs h pc lv [.null] Q := bs_ret (v := some .null) hd ⟨n, hf⟩ hq
/-- another number of the same value on the stack's top -/
theorem bs_topi {x : Int32} (y : Int32) (hy : x = y) (k : bs_B G X M d bc bs h pc lv (.int y :: st) Q) : bs_B G X M d bc bs h pc lv (.int x :: st) Q := hy ▸ k
/-! the heap -/
def bs_set (h : Hp) (a : Nat) (e : va_E) : Hp := fun b => if b = a then some e else h b
theorem bs_set_self {h : Hp} {a : Nat} {e : va_E} : bs_set h a e a = some e := if_pos rfl
theorem bs_set_ne {h : Hp} {a b : Nat} {e : va_E} (hb : b ≠ a) : bs_set h a e b = h b := if_neg hb
theorem bs_H.set {ws : va_W} {H1 : Heap} {a : Nat} {e0 e : va_E} {k : Nat} (hk : ws[k]? = some (a, e0)) (hD0 : va_D (fun q => G.2.2 ≤ q) ws) (hh : ∀ (a : Nat) (e : va_E), h a = some e → ∃ k : Nat, ws[k]? = some (a, e)) (hP : va_P G.1 vwCl (ws.set k (a, e)) H1) (hD : va_D (fun q => G.2.2 ≤ q) (ws.set k (a, e))) : bs_H G (bs_set h a e) H1 := by
  refine ⟨_, hP, hD, fun b e' hb => ?_⟩
  by_cases hba : b = a
  · subst hba
    rw [bs_set_self] at hb
    cases hb
    exact ⟨k, List.getElem?_set_self (List.getElem?_eq_some_iff.mp hk).1⟩
  · rw [bs_set_ne hba] at hb
    obtain ⟨j, hj⟩ := hh b e' hb
    refine ⟨j, ?_⟩
    rw [List.getElem?_set_ne, hj]
    intro hkj
    subst hkj
    rw [hk] at hj
    cases hj
    exact hba rfl
theorem bs_H.push {ws : va_W} {H1 : Heap} {q : Nat} {e : va_E} (hh : ∀ (a : Nat) (e : va_E), h a = some e → ∃ k : Nat, ws[k]? = some (a, e)) (hP : va_P G.1 vwCl (ws ++ [(q, e)]) H1) (hD : va_D (fun q => G.2.2 ≤ q) (ws ++ [(q, e)])) : h q = none ∧ G.2.2 ≤ q ∧ bs_H G (bs_set h q e) H1 := by
  have hq : (ws ++ [(q, e)])[ws.length]? = some (q, e) := by simp
  have hn : h q = none := by
    cases hc : h q with
    | none => rfl
    | some e' =>
      obtain ⟨k, hk⟩ := hh q e' hc
      have hl := (List.getElem?_eq_some_iff.mp hk).1
      have h1 : (ws ++ [(q, e)])[k]? = some (q, e') := by rw [List.getElem?_append_left hl]; exact hk
      have := hD.1 k ws.length _ _ h1 hq rfl
      omega
  refine ⟨hn, hD.2 _ _ hq, _, hP, hD, fun b e' hb => ?_⟩
  by_cases hba : b = q
  · subst hba
    rw [bs_set_self] at hb
    cases hb
    exact ⟨_, hq⟩
  · rw [bs_set_ne hba] at hb
    obtain ⟨j, hj⟩ := hh b e' hb
    exact ⟨j, by rw [List.getElem?_append_left (List.getElem?_eq_some_iff.mp hj).1]; exact hj⟩
/-- what the tables say of a kind of objects -/
def bs_CL (ci : Nat) (C : String) (T : u_T) (N : Nat) (ty0 : Nat → FieldType) : Prop := vwCl[ci]? = some (C, T, N) ∧ (∀ w ∈ u_ws C T N, w ∈ lw_tbl ∧ bs_okw w = true) ∧ (∀ j, j < N → parseFieldDescriptor (T j).2.2.1 = some (ty0 j)) ∧ (∀ a, a < N → ∀ b, b < N → a ≠ b → (T a).2.1 ≠ (T b).2.1)
theorem bs_in_of {ws : List Cond} (hg : GoodIn lw_tbl ws) (hk : ws.all bs_okw = true) : ∀ w ∈ ws, w ∈ lw_tbl ∧ bs_okw w = true := fun w hw => ⟨(hg w hw).1, List.all_eq_true.mp hk w hw⟩
/-- a field's link: of the caller's pool entry, to the field k of the kind ci -/
def bs_FL (own : String) (idx ci k : Nat) (ty : FieldType) (fin : Bool) : Prop := ∃ (C : String) (T : u_T) (N : Nat) (ty0 : Nat → FieldType), bs_CL ci C T N ty0 ∧ k < N ∧ ty0 k = ty ∧ (T k).2.2.2 = fin ∧ (T k).1 = C ∧ (Cond.fieldLink own idx (T k).1 (T k).2.1 (T k).2.2.1 ∈ lw_tbl ∨ ∃ host, Cond.fieldLinkNest own idx (T k).1 (T k).2.1 (T k).2.2.1 host ∈ lw_tbl)
theorem bs_fl {own : String} {idx ci k : Nat} {ty : FieldType} {fin : Bool} {C : String} {T : u_T} {N : Nat} {ty0 : Nat → FieldType} (hc : bs_CL ci C T N ty0) (hk : k < N) (ht : ty0 k = ty) (hf : (T k).2.2.2 = fin) (hC : (T k).1 = C) (hl : Cond.fieldLink own idx (T k).1 (T k).2.1 (T k).2.2.1 ∈ lw_tbl ∨ ∃ host, Cond.fieldLinkNest own idx (T k).1 (T k).2.1 (T k).2.2.1 host ∈ lw_tbl) : bs_FL own idx ci k ty fin := ⟨C, T, N, ty0, hc, hk, ht, hf, hC, hl⟩
theorem bs_getf {idx ci k : Nat} {ty : FieldType} {fin : Bool} {a : Nat} {fs : List Value} {v : Value} {pc' : Nat} (hl : bs_FL M.1.cls idx ci k ty fin) (hd : decode M.2.1 pc = .ok (.getfield idx, 3)) (hh : h a = some (.inr (ci, fs))) (hv : fs[k]? = some v) (hp : pc + 3 = pc') (kk : bs_B G X M d bc bs h pc' lv (v :: st) Q) : bs_B G X M d bc bs h pc lv (.ref a :: st) Q := by
  subst hp
  obtain ⟨C, T, N, ty0, ⟨hc, hin, hty, hnm⟩, hk, -, -, hC, hlk⟩ := hl
  intro p l e R s m args below meth c H locs cells slots QQ ls Cx hH hS hc' hs hl hr
  have hTB := Cx.2.2.2.2.1.2.1
  have hts : ∀ w ∈ u_ws C T N, w.before args s = true := fun w hw => hTB w (hin w hw).1 (hin w hw).2 args
  obtain ⟨ws, hP, hD, hw⟩ := id hH
  obtain ⟨q0, hq0⟩ := hw a _ hh
  rcases hlk with hlk | ⟨host, hlk⟩
  · exact va_get Cx.1 Cx.2.1 hts (fun w h => h) Cx.2.2.2.1 Cx.2.2.2.2.1.1 hP q0 hq0 hc k hk (hTB _ hlk rfl args) (fun _ h9 => h9) hv hd (kk p l e R s m args below meth c H locs cells slots QQ ls Cx hH hS hc' hs hl hr)
  · exact va_getN Cx.1 Cx.2.1 hts (fun w h => h) Cx.2.2.2.1 Cx.2.2.2.2.1.1 hP q0 hq0 hc k hk (hTB _ hlk rfl args) (fun _ h9 => h9) hv hd (kk p l e R s m args below meth c H locs cells slots QQ ls Cx hH hS hc' hs hl hr)
theorem bs_putf {idx ci k : Nat} {ty : FieldType} {a : Nat} {fs : List Value} {v : Value} {pc' : Nat} (hl : bs_FL M.1.cls idx ci k ty false) (hd : decode M.2.1 pc = .ok (.putfield idx, 3)) (hh : h a = some (.inr (ci, fs))) (hn : narrow ty v = v) (hfit : fits ty v = true) (hlen : Nat.blt k fs.length = true) (hp : pc + 3 = pc') (kk : bs_B G X M d bc bs (bs_set h a (.inr (ci, fs.set k v))) pc' lv st Q) : bs_B G X M d bc bs h pc lv (v :: .ref a :: st) Q := by
  subst hp
  obtain ⟨C, T, N, ty0, ⟨hc, hin, hty, hnm⟩, hk, ht, hfin, hC, hlk⟩ := hl
  intro p l e R s m args below meth c H locs cells slots QQ ls Cx hH hS hc' hs hl hr
  have hTB := Cx.2.2.2.2.1.2.1
  have hts : ∀ w ∈ u_ws C T N, w.before args s = true := fun w hw => hTB w (hin w hw).1 (hin w hw).2 args
  obtain ⟨ws, hP, hD, hw⟩ := id hH
  obtain ⟨q0, hq0⟩ := hw a _ hh
  have hdd : parseFieldDescriptor (T k).2.2.1 = some ty := by rw [hty k hk, ht]
  rcases hlk with hlk | ⟨host, hlk⟩
  · exact va_put Cx.1 Cx.2.1 hts (fun w h => h) ty0 hty hnm Cx.2.2.2.1 Cx.2.2.2.2.1.1 hP hD hS q0 hq0 hc k hk (hTB _ hlk rfl args) (fun _ h9 => h9) hfin hdd hn hfit (Nat.le_of_ble_eq_true hlen) hd (fun H1 locs1 hP1 hD1 hS1 => kk p l e R s m args below meth c H1 locs1 cells slots QQ ls Cx (bs_H.set hq0 hD hw hP1 hD1) hS1 hc' hs hl hr)
  · exact va_putN Cx.1 Cx.2.1 hts (fun w h => h) ty0 hty hnm Cx.2.2.2.1 Cx.2.2.2.2.1.1 hP hD hS q0 hq0 hc k hk (hTB _ hlk rfl args) (fun _ h9 => h9) hfin hdd hn hfit (Nat.le_of_ble_eq_true hlen) hd (fun H1 locs1 hP1 hD1 hS1 => kk p l e R s m args below meth c H1 locs1 cells slots QQ ls Cx (bs_H.set hq0 hD hw hP1 hD1) hS1 hc' hs hl hr)
/-- a final field, in a constructor of its own -/
def bs_FF (own : String) (idx ci k : Nat) (ty : FieldType) : Prop := ∃ (T : u_T) (N : Nat) (ty0 : Nat → FieldType), bs_CL ci own T N ty0 ∧ k < N ∧ ty0 k = ty ∧ (T k).2.2.2 = true ∧ (T k).1 = own ∧ Cond.fieldLink own idx (T k).1 (T k).2.1 (T k).2.2.1 ∈ lw_tbl
theorem bs_ff {own : String} {idx ci k : Nat} {ty : FieldType} {T : u_T} {N : Nat} {ty0 : Nat → FieldType} (hc : bs_CL ci own T N ty0) (hk : k < N) (ht : ty0 k = ty) (hf : (T k).2.2.2 = true) (hC : (T k).1 = own) (hl : Cond.fieldLink own idx (T k).1 (T k).2.1 (T k).2.2.1 ∈ lw_tbl) : bs_FF own idx ci k ty := ⟨T, N, ty0, hc, hk, ht, hf, hC, hl⟩
theorem bs_putF {idx ci k : Nat} {ty : FieldType} {a : Nat} {fs : List Value} {v : Value} {pc' : Nat} (hl : bs_FF M.1.cls idx ci k ty) (hd : decode M.2.1 pc = .ok (.putfield idx, 3)) (hi : M.1.name = "<init>") (hh : h a = some (.inr (ci, fs))) (hn : narrow ty v = v) (hfit : fits ty v = true) (hlen : Nat.blt k fs.length = true) (hp : pc + 3 = pc') (kk : bs_B G X M d bc bs (bs_set h a (.inr (ci, fs.set k v))) pc' lv st Q) : bs_B G X M d bc bs h pc lv (v :: .ref a :: st) Q := by
  subst hp
  obtain ⟨T, N, ty0, ⟨hc, hin, hty, hnm⟩, hk, ht, hfin, hC, hlk⟩ := hl
  intro p l e R s m args below meth c H locs cells slots QQ ls Cx hH hS hc' hs hl hr
  have hTB := Cx.2.2.2.2.1.2.1
  have hts : ∀ w ∈ u_ws M.1.cls T N, w.before args s = true := fun w hw => hTB w (hin w hw).1 (hin w hw).2 args
  obtain ⟨ws, hP, hD, hw⟩ := id hH
  obtain ⟨q0, hq0⟩ := hw a _ hh
  have hdd : parseFieldDescriptor (T k).2.2.1 = some ty := by rw [hty k hk, ht]
  have hnm2 : meth.name = "<init>" := Cx.2.2.2.2.2.2.2.2.2.trans hi
  exact va_putF Cx.1 Cx.2.1 hts (fun w h => h) ty0 hty hnm Cx.2.2.2.1 Cx.2.2.2.2.1.1 hP hD hS q0 hq0 hc k hk (hTB _ hlk rfl args) (fun _ h9 => h9) hfin hnm2 hC hdd hn hfit (Nat.le_of_ble_eq_true hlen) hd (fun H1 locs1 hP1 hD1 hS1 => kk p l e R s m args below meth c H1 locs1 cells slots QQ ls Cx (bs_H.set hq0 hD hw hP1 hD1) hS1 hc' hs hl hr)
/-! arrays: kind 0 ints, 1 booleans, 2 Allocations, 3 Pointers, 4 Cells -/
theorem bs_iald {a n : Nat} {f : Nat → Int32} {i : Int32} {pc' : Nat} (hd : decode M.2.1 pc = .ok (.iaload, 1)) (hh : h a = some (.inl (G.2.1 0, n, .inl f))) (hin : vp_in i n) (hp : pc + 1 = pc') (kk : bs_B G X M d bc bs h pc' lv (.int (f i.toNatClampNeg) :: st) Q) : bs_B G X M d bc bs h pc lv (.int i :: .ref a :: st) Q := by
  subst hp
  intro p l e R s m args below meth c H locs cells slots QQ ls Cx hH hS hc' hs hl hr
  obtain ⟨ws, hP, hD, hw⟩ := id hH
  obtain ⟨q0, hq0⟩ := hw a _ hh
  exact va_iald Cx.1 Cx.2.1 Cx.2.2.2.2.1.1 hP q0 0 hq0 rfl hin hd (kk p l e R s m args below meth c H locs cells slots QQ ls Cx hH hS hc' hs hl hr)
theorem bs_zald {a n : Nat} {f : Nat → Int32} {i : Int32} {pc' : Nat} (hd : decode M.2.1 pc = .ok (.baload, 1)) (hh : h a = some (.inl (G.2.1 1, n, .inl f))) (hin : vp_in i n) (hp : pc + 1 = pc') (kk : bs_B G X M d bc bs h pc' lv (.int (f i.toNatClampNeg) :: st) Q) : bs_B G X M d bc bs h pc lv (.int i :: .ref a :: st) Q := by
  subst hp
  intro p l e R s m args below meth c H locs cells slots QQ ls Cx hH hS hc' hs hl hr
  obtain ⟨ws, hP, hD, hw⟩ := id hH
  obtain ⟨q0, hq0⟩ := hw a _ hh
  exact va_zald Cx.1 Cx.2.1 Cx.2.2.2.2.1.1 hP q0 1 hq0 rfl hin hd (kk p l e R s m args below meth c H locs cells slots QQ ls Cx hH hS hc' hs hl hr)
theorem bs_iast {a n : Nat} {f : Nat → Int32} {i x : Int32} {pc' : Nat} (hd : decode M.2.1 pc = .ok (.iastore, 1)) (hh : h a = some (.inl (G.2.1 0, n, .inl f))) (hin : vp_in i n) (hp : pc + 1 = pc') (kk : bs_B G X M d bc bs (bs_set h a (.inl (G.2.1 0, n, .inl (upd f i.toNatClampNeg x)))) pc' lv st Q) : bs_B G X M d bc bs h pc lv (.int x :: .int i :: .ref a :: st) Q := by
  subst hp
  intro p l e R s m args below meth c H locs cells slots QQ ls Cx hH hS hc' hs hl hr
  obtain ⟨ws, hP, hD, hw⟩ := id hH
  obtain ⟨q0, hq0⟩ := hw a _ hh
  exact va_iast Cx.1 Cx.2.1 Cx.2.2.2.2.1.1 hP hD hS q0 0 hq0 rfl hin hd (fun H1 locs1 hP1 hD1 hS1 => kk p l e R s m args below meth c H1 locs1 cells slots QQ ls Cx (bs_H.set hq0 hD hw hP1 hD1) hS1 hc' hs hl hr)
theorem bs_zast {a n : Nat} {f : Nat → Int32} {i x : Int32} {pc' : Nat} (hd : decode M.2.1 pc = .ok (.bastore, 1)) (hh : h a = some (.inl (G.2.1 1, n, .inl f))) (hin : vp_in i n) (hp : pc + 1 = pc') (kk : bs_B G X M d bc bs (bs_set h a (.inl (G.2.1 1, n, .inl (upd f i.toNatClampNeg (vp_nar .boolean x))))) pc' lv st Q) : bs_B G X M d bc bs h pc lv (.int x :: .int i :: .ref a :: st) Q := by
  subst hp
  intro p l e R s m args below meth c H locs cells slots QQ ls Cx hH hS hc' hs hl hr
  obtain ⟨ws, hP, hD, hw⟩ := id hH
  obtain ⟨q0, hq0⟩ := hw a _ hh
  exact va_zast Cx.1 Cx.2.1 Cx.2.2.2.2.1.1 hP hD hS q0 1 hq0 rfl hin hd (fun H1 locs1 hP1 hD1 hS1 => kk p l e R s m args below meth c H1 locs1 cells slots QQ ls Cx (bs_H.set hq0 hD hw hP1 hD1) hS1 hc' hs hl hr)
theorem bs_alen {a t : Nat} {x : vp_A} {pc' : Nat} (hd : decode M.2.1 pc = .ok (.arraylength, 1)) (hh : h a = some (.inl (G.2.1 t, x))) (ht : Nat.blt t 5 = true) (hp : pc + 1 = pc') (kk : bs_B G X M d bc bs h pc' lv (.int (Int32.ofNat x.1) :: st) Q) : bs_B G X M d bc bs h pc lv (.ref a :: st) Q := by
  subst hp
  intro p l e R s m args below meth c H locs cells slots QQ ls Cx hH hS hc' hs hl hr
  obtain ⟨ws, hP, hD, hw⟩ := id hH
  obtain ⟨q0, hq0⟩ := hw a _ hh
  have ht := Nat.le_of_ble_eq_true ht
  have hty : ∃ ty, (bs_TYS G.2.1)[t]? = some (G.2.1 t, ty) := by
    match t, ht with
    | 0, _ => exact ⟨_, rfl⟩
    | 1, _ => exact ⟨_, rfl⟩
    | 2, _ => exact ⟨_, rfl⟩
    | 3, _ => exact ⟨_, rfl⟩
    | 4, _ => exact ⟨_, rfl⟩
  obtain ⟨ty, hty⟩ := hty
  exact va_alen Cx.1 Cx.2.1 Cx.2.2.2.2.1.1 hP q0 t hq0 hty rfl hd (kk p l e R s m args below meth c H locs cells slots QQ ls Cx hH hS hc' hs hl hr)
/-- which class the references of an array of a kind are of -/
def bs_rc (t : Nat) : String := match t with
  | 2 => RX0
  | 3 => RX3
  | _ => RX2
theorem bs_TYS_r {ct : Nat → ClassId} : ∀ t : Nat, (t = 2 ∨ t = 3 ∨ t = 4) → (bs_TYS ct)[t]? = some (ct t, .object (bs_rc t)) := by
  rintro t (rfl | rfl | rfl) <;> rfl
theorem bs_aald {a n t : Nat} {f : Nat → Option Nat} {i : Int32} {v : Value} {pc' : Nat} (hd : decode M.2.1 pc = .ok (.aaload, 1)) (hh : h a = some (.inl (G.2.1 t, n, .inr (.inr (.inr (.inr f)))))) (ht : t = 2 ∨ t = 3 ∨ t = 4) (hin : vp_in i n) (hv : va_rf (f i.toNatClampNeg) = v) (hp : pc + 1 = pc') (kk : bs_B G X M d bc bs h pc' lv (v :: st) Q) : bs_B G X M d bc bs h pc lv (.int i :: .ref a :: st) Q := by
  subst hp; subst hv
  intro p l e R s m args below meth c H locs cells slots QQ ls Cx hH hS hc' hs hl hr
  obtain ⟨ws, hP, hD, hw⟩ := id hH
  obtain ⟨q0, hq0⟩ := hw a _ hh
  exact va_aldq Cx.1 Cx.2.1 Cx.2.2.2.2.1.1 hP q0 t hq0 (bs_TYS_r t ht) hin hd (kk p l e R s m args below meth c H locs cells slots QQ ls Cx hH hS hc' hs hl hr)
theorem bs_aast {a n t v ci : Nat} {r : vw_C} {vs : List Value} {f : Nat → Option Nat} {i : Int32} {pc' : Nat} (hd : decode M.2.1 pc = .ok (.aastore, 1)) (hh : h a = some (.inl (G.2.1 t, n, .inr (.inr (.inr (.inr f)))))) (ht : t = 2 ∨ t = 3 ∨ t = 4) (hv : h v = some (.inr (ci, vs))) (hc : vwCl[ci]? = some r) (hr1 : bs_rc t = r.1) (hin : vp_in i n) (hp : pc + 1 = pc') (kk : bs_B G X M d bc bs (bs_set h a (.inl (G.2.1 t, n, .inr (.inr (.inr (.inr (va_up f i.toNatClampNeg (some v)))))))) pc' lv st Q) : bs_B G X M d bc bs h pc lv (.ref v :: .int i :: .ref a :: st) Q := by
  subst hp
  intro p l e R s m args below meth c H locs cells slots QQ ls Cx hH hS hc' hs hl hr
  obtain ⟨ws, hP, hD, hw⟩ := id hH
  obtain ⟨q0, hq0⟩ := hw a _ hh
  obtain ⟨qk, hqk⟩ := hw v _ hv
  exact va_astq Cx.1 Cx.2.1 Cx.2.2.2.2.1.1 hP hD hS q0 t qk ci hq0 (by rw [bs_TYS_r t ht, hr1]) hqk hc hin hd (fun H1 locs1 hP1 hD1 hS1 => kk p l e R s m args below meth c H1 locs1 cells slots QQ ls Cx (bs_H.set hq0 hD hw hP1 hD1) hS1 hc' hs hl hr)
/-! making cells -/
theorem bs_new {idx ci N : Nat} {C : String} {T : u_T} {ty0 : Nat → FieldType} {fs : List Value} {pc' bc' bs' : Nat} (hd : decode M.2.1 pc = .ok (.new idx, 3)) (hcl : bs_CL ci C T N ty0) (hk : Cond.classLink M.1.cls idx C ∈ lw_tbl) (hi : Cond.instantiable C N ∈ lw_tbl) (hn : Cond.initialized C ∈ lw_tbl) (hfs : ∀ j, j < N → defaultValue (ty0 j) = vp_V fs j) (hbc : bc' + 1 ≤ bc) (hbs : bs' + N ≤ bs) (hp : pc + 3 = pc') (kk : ∀ a : Nat, h a = none → bs_B G X M d bc' bs' (bs_set h a (.inr (ci, fs))) pc' lv (.ref a :: st) Q) : bs_B G X M d bc bs h pc lv st Q := by
  subst hp
  obtain ⟨hc, hin, hty, hnm⟩ := hcl
  intro p l e R s m args below meth c H locs cells slots QQ ls Cx hH hS hc' hs hl hr
  have hTB := Cx.2.2.2.2.1.2.1
  have hts : ∀ w ∈ u_ws C T N, w.before args s = true := fun w hw => hTB w (hin w hw).1 (hin w hw).2 args
  obtain ⟨ws, hP, hD, hw⟩ := id hH
  refine va_new Cx.1 Cx.2.1 hts (fun w h => h) ty0 hty Cx.2.2.2.1 (hTB _ hk rfl args) (hTB _ hi rfl args) (hTB _ hn rfl args) Cx.2.2.2.2.1.1 hP hD hS (fun q hq => Nat.le_trans Cx.2.2.2.2.1.2.2 hq) hc hfs (by omega) (by omega) hd (fun q H1 hP1 hD1 hS1 => ?_)
  obtain ⟨h1, h2, h3⟩ := bs_H.push hw hP1 hD1
  exact kk q h1 p l e R s m args below meth c H1 locs (cells + 1) (slots + N) QQ ls Cx h3 hS1 (by omega) (by omega) hl (fun v h' H' locs' cells' slots' pc' ls' a1 a2 a3 a4 a5 => hr v h' H' locs' cells' slots' pc' ls' a1 a2 a3 (by omega) (by omega))
theorem bs_same {U : State} {c1 c2 : ClassId} {ty : FieldType} {D : va_G} {cl : List vw_C} {t1 t2 : List (ClassId × FieldType)} {k1 k2 : Nat} (h1 : va_K D cl t1 U) (h2 : va_K D cl t2 U) (e1 : t1[k1]? = some (c1, ty)) (e2 : t2[k2]? = some (c2, ty)) : c1 = c2 := by
  have a1 := (h1.2 k1 _ e1).2
  have a2 := (h2.2 k2 _ e2).2
  cases ty with
  | object C =>
    obtain ⟨_, _, _, _, _, b1⟩ := a1
    obtain ⟨_, _, _, _, _, b2⟩ := a2
    exact Option.some.inj (b1.symm.trans b2)
  | _ => exact Option.some.inj (a1.symm.trans a2)
theorem bs_newI {n : Int32} {N : Nat} {pc' bc' bs' : Nat} (hd : decode M.2.1 pc = .ok (.newarray .int, 2)) (hk : Cond.arrayClass .int ∈ lw_tbl) (hn : ¬ n < 0) (hN : n.toNatClampNeg = N) (hb : N ≤ 100000) (hbc : bc' + 1 ≤ bc) (hbs : bs' + N ≤ bs) (hp : pc + 2 = pc') (kk : ∀ a : Nat, h a = none → bs_B G X M d bc' bs' (bs_set h a (.inl (G.2.1 0, N, .inl (fun _ => 0)))) pc' lv (.ref a :: st) Q) : bs_B G X M d bc bs h pc lv (.int n :: st) Q := by
  subst hp
  intro p l e R s m args below meth c H locs cells slots QQ ls Cx hH hS hc' hs hl hr
  have hTB := Cx.2.2.2.2.1.2.1
  obtain ⟨ws, hP, hD, hw⟩ := id hH
  refine va_newa (atype := .int) (ty := .int) (a0 := (N, .inl (fun _ => 0))) Cx.1 Cx.2.1 (hTB _ hk rfl args) rfl Cx.2.2.2.2.1.1 hP hD hS (fun q hq => Nat.le_trans Cx.2.2.2.2.1.2.2 hq) (fun _ => rfl) hn hN (by show N * 4 ≤ 536870912; omega) (by omega) (by omega) hd (fun q cA H1 hK1 hP1 hD1 hS1 => ?_)
  have e : G.2.1 0 = cA := bs_same Cx.2.2.2.2.1.1 hK1 (k1 := 0) (k2 := 5) (ty := .int) rfl rfl
  subst e
  obtain ⟨h1, h2, h3⟩ := bs_H.push hw hP1 hD1
  exact kk q h1 p l e R s m args below meth c H1 locs (cells + 1) (slots + N) QQ ls Cx h3 hS1 (by omega) (by omega) hl (fun v h' H' locs' cells' slots' pc' ls' a1 a2 a3 a4 a5 => hr v h' H' locs' cells' slots' pc' ls' a1 a2 a3 (by omega) (by omega))
theorem bs_newZ {n : Int32} {N : Nat} {pc' bc' bs' : Nat} (hd : decode M.2.1 pc = .ok (.newarray .boolean, 2)) (hk : Cond.arrayClass .boolean ∈ lw_tbl) (hn : ¬ n < 0) (hN : n.toNatClampNeg = N) (hb : N ≤ 100000) (hbc : bc' + 1 ≤ bc) (hbs : bs' + N ≤ bs) (hp : pc + 2 = pc') (kk : ∀ a : Nat, h a = none → bs_B G X M d bc' bs' (bs_set h a (.inl (G.2.1 1, N, .inl (fun _ => 0)))) pc' lv (.ref a :: st) Q) : bs_B G X M d bc bs h pc lv (.int n :: st) Q := by
  subst hp
  intro p l e R s m args below meth c H locs cells slots QQ ls Cx hH hS hc' hs hl hr
  have hTB := Cx.2.2.2.2.1.2.1
  obtain ⟨ws, hP, hD, hw⟩ := id hH
  refine va_newa (atype := .boolean) (ty := .boolean) (a0 := (N, .inl (fun _ => 0))) Cx.1 Cx.2.1 (hTB _ hk rfl args) rfl Cx.2.2.2.2.1.1 hP hD hS (fun q hq => Nat.le_trans Cx.2.2.2.2.1.2.2 hq) (fun _ => rfl) hn hN (by show N * 1 ≤ 536870912; omega) (by omega) (by omega) hd (fun q cA H1 hK1 hP1 hD1 hS1 => ?_)
  have e : G.2.1 1 = cA := bs_same Cx.2.2.2.2.1.1 hK1 (k1 := 1) (k2 := 5) (ty := .boolean) rfl rfl
  subst e
  obtain ⟨h1, h2, h3⟩ := bs_H.push hw hP1 hD1
  exact kk q h1 p l e R s m args below meth c H1 locs (cells + 1) (slots + N) QQ ls Cx h3 hS1 (by omega) (by omega) hl (fun v h' H' locs' cells' slots' pc' ls' a1 a2 a3 a4 a5 => hr v h' H' locs' cells' slots' pc' ls' a1 a2 a3 (by omega) (by omega))
theorem bs_newq {t idx : Nat} {n : Int32} {N : Nat} {pc' bc' bs' : Nat} (hd : decode M.2.1 pc = .ok (.anewarray idx, 3)) (ht : t = 2 ∨ t = 3 ∨ t = 4) (hl : Cond.classLink M.1.cls idx (bs_rc t) ∈ lw_tbl) (hk : Cond.arrayOver (.object (bs_rc t)) ∈ lw_tbl) (hn : ¬ n < 0) (hN : n.toNatClampNeg = N) (hb : N ≤ 100000) (hbc : bc' + 1 ≤ bc) (hbs : bs' + N ≤ bs) (hp : pc + 3 = pc') (kk : ∀ a : Nat, h a = none → bs_B G X M d bc' bs' (bs_set h a (.inl (G.2.1 t, N, .inr (.inr (.inr (.inr (fun _ => none))))))) pc' lv (.ref a :: st) Q) : bs_B G X M d bc bs h pc lv (.int n :: st) Q := by
  subst hp
  intro p l e R s m args below meth c H locs cells slots QQ ls Cx hH hS hc' hs hll hr
  have hTB := Cx.2.2.2.2.1.2.1
  obtain ⟨ws, hP, hD, hw⟩ := id hH
  refine va_newq Cx.1 Cx.2.1 Cx.2.2.2.1 (hTB _ hl rfl args) (va_AO.of (hTB _ hk rfl args)) Cx.2.2.2.2.1.1 hP hD hS (fun q hq => Nat.le_trans Cx.2.2.2.2.1.2.2 hq) hn hN (by omega) (by omega) (by omega) hd (fun q cA H1 hK1 hP1 hD1 hS1 => ?_)
  have e : G.2.1 t = cA := bs_same Cx.2.2.2.2.1.1 hK1 (k1 := t) (k2 := 5) (ty := .object (bs_rc t)) (bs_TYS_r t ht) rfl
  subst e
  obtain ⟨h1, h2, h3⟩ := bs_H.push hw hP1 hD1
  exact kk q h1 p l e R s m args below meth c H1 locs (cells + 1) (slots + N) QQ ls Cx h3 hS1 (by omega) (by omega) hll (fun v h' H' locs' cells' slots' pc' ls' a1 a2 a3 a4 a5 => hr v h' H' locs' cells' slots' pc' ls' a1 a2 a3 (by omega) (by omega))
theorem bs_obj {idx : Nat} {a : Nat} {pc' : Nat} (hd : decode M.2.1 pc = .ok (.invokespecial idx, 3)) (hl : Cond.methodLink M.1.cls idx objectInit ∈ lw_tbl) (h1 : Cond.instanceMethod objectInit ∈ lw_tbl) (h2 : Cond.code objectInit ⟨#[0xb1]⟩ 1 none ∈ lw_tbl) (hdd : 1 ≤ d) (hW : Nat.ble (st.map fun v => v.category).sum 8 = true) (hp : pc + 3 = pc') (k : bs_B G X M d bc bs h pc' lv st Q) : bs_B G X M d bc bs h pc lv (.ref a :: st) Q := by
  subst hp
  refine bs_pure (fun p l e R s m args below meth c H locs cells slots QQ ls C hl' kk => ?_) k
  have hTB := C.2.2.2.2.1.2.1
  have h8 := Nat.le_of_ble_eq_true hW
  refine W.objInit C.1 C.2.1 C.2.2.2.1 (hTB _ hl rfl args) (hTB _ h1 rfl args) (hTB _ h2 rfl args) rfl (by rw [C.2.2.1]; exact hl'.1) rfl hd (Nat.le_trans hdd C.2.2.2.2.2.2.1) ?_ (kk ls hl')
  have h9 := C.2.2.2.2.2.2.2.1
  show 0 + (st.map fun v => v.category).sum + 12 ≤ R.locals
  omega
/-! calls -/
def bs_ML (own : String) (idx : Nat) (y : MethodName) : Prop := Cond.methodLink own idx y ∈ lw_tbl ∨ ∃ host, Cond.methodLinkNest own idx y host ∈ lw_tbl
def bs_nn (y : MethodName) (n : Nat) : Prop := y.cls ≠ "java/lang/invoke/MethodHandle" ∧ y.cls ≠ "java/lang/invoke/VarHandle" ∧ (parseMethodDescriptor y.desc).map (fun d => d.parameters.length) = some n
def bs_MV (N : MI) (ci : Nat) : Prop := Cond.code N.1 N.2.1 N.2.2.1 N.2.2.2.1 ∈ lw_tbl ∧ Cond.initialized N.1.cls ∈ lw_tbl ∧ Cond.instanceMethod N.1 ∈ lw_tbl ∧ Cond.selects N.1.cls N.1 N.1 ∈ lw_tbl ∧ bs_nn N.1 N.2.2.2.2 ∧ N.2.2.1 ≤ 18 ∧ (vwCl[ci]?).map (fun r => r.1) = some N.1.cls
def bs_MC (N : MI) : Prop := Cond.code N.1 N.2.1 N.2.2.1 N.2.2.2.1 ∈ lw_tbl ∧ Cond.initialized N.1.cls ∈ lw_tbl ∧ Cond.instanceMethod N.1 ∈ lw_tbl ∧ bs_nn N.1 N.2.2.2.2 ∧ (N.1.name = "<init>" ∧ N.2.2.2.1 = none) ∧ N.2.2.1 ≤ 18
def bs_MS (N : MI) : Prop := Cond.code N.1 N.2.1 N.2.2.1 N.2.2.2.1 ∈ lw_tbl ∧ Cond.initialized N.1.cls ∈ lw_tbl ∧ Cond.static N.1 ∈ lw_tbl ∧ bs_nn N.1 N.2.2.2.2 ∧ N.2.2.1 ≤ 18
theorem bs_run {N : MI} {d' bc' bs' bc1 bs1 : Nat} {vs : List Value} {Q1 : Option Value → Hp → Prop} {rest : List Value} {pc' : Nat}
    (run : ∀ (p : Program) (l : Launch) (e : Env) (R : Room) (s : State) (m : MethodId) (args : Array Value) (below : List Frame) (meth : Method) (c : Code) (H : Heap) (locs : List Loc) (cells slots : Nat) (ls : Array Slot),
      bs_Cx G X M d p R s m meth c → bs_H G h H → va_S (fun q => G.2.2 ≤ q) s.heap H locs → cells + bc' ≤ R.cells → slots + bs' ≤ R.slots → lv_has ls M.2.2.1 lv → va_Run p l e R s m args below meth c H locs cells slots bc' bs' (F0 m pc ls st) rest (bs_Qc G Q1 vs.toArray) (fun q => G.2.2 ≤ q))
    (hbc : bc1 + bc' ≤ bc) (hbs : bs1 + bs' ≤ bs) (hp : pc + 3 = pc') (kk : ∀ (v : Option Value) (h' : Hp), Q1 v h' → bs_B G X M d bc1 bs1 h' pc' lv (v.toList ++ rest) Q) : bs_B G X M d bc bs h pc lv st Q := by
  subst hp
  intro p l e R s m args below meth c H locs cells slots QQ ls Cx hH hS hc hs hl hr
  intro T hT X'
  obtain ⟨v, st₀, t, T', L, h0, X1, hL, e1, e2, ⟨⟨v', h', hv, hq, hH1⟩, hz, hk⟩, st⟩ := run p l e R s m args below meth c H locs cells slots ls Cx hH hS (by omega) (by omega) hl T hT X'
  cases hv
  rw [h0] at hz hk
  have hS1 : va_S (fun q => G.2.2 ≤ q) s.heap T'.heap (locs ++ L) := ⟨Nat.le_trans hS.1 (by rw [e1]; exact hz), fun q a1 a2 => by rw [e1, hk q (Nat.lt_of_lt_of_le a1 hS.1) a2]; exact hS.2.1 q a1 a2, fun q hq' => by
    rcases List.mem_append.mp hq' with a | a
    · exact hS.2.2 q a
    · exact hL q a⟩
  obtain ⟨t2, a1, b1⟩ := kk v h' hq p l e R s m args below meth c T'.heap (locs ++ L) (cells + bc') (slots + bs') QQ ls Cx (by rw [e1]; exact hH1) hS1 (by omega) (by omega) hl (fun v2 h2 H2 locs2 cells2 slots2 pc2 ls2 a1 a2 a3 a4 a5 => hr v2 h2 H2 locs2 cells2 slots2 pc2 ls2 a1 a2 a3 (by omega) (by omega)) T' rfl X1
  exact ⟨t2, st t2 a1, b1⟩
theorem bs_good {s : State} {args : Array Value} {N : MI} (hTB : bs_TB s) (hc : Cond.code N.1 N.2.1 N.2.2.1 N.2.2.2.1 ∈ lw_tbl) : ∀ w ∈ [Cond.code N.1 N.2.1 N.2.2.1 N.2.2.2.1], ∀ (a' : Array Value) (U : State), s.WarmedH U.vm → w.before a' U = true := by
  intro w hw a' U hW
  rw [List.mem_singleton.mp hw]
  exact bs_TB.warm hW hTB _ hc rfl a'
theorem bs_len {y : MethodName} {n : Nat} (h : bs_nn y n) : ∀ sig, parseMethodDescriptor y.desc = some sig → n = sig.parameters.length := fun sig h1 => by
  have h2 := h.2.2
  rw [h1] at h2
  exact (Option.some.inj h2).symm
theorem bs_callV {N : MI} {d' bc' bs' bc1 bs1 idx ci b : Nat} {As : List Value} {fs : List Value} {Q1 : Option Value → Hp → Prop} {rest : List Value} {pc' : Nat}
    (hd : decode M.2.1 pc = .ok (.invokevirtual idx, 3)) (hl : bs_ML M.1.cls idx N.1) (hm : bs_MV N ci) (hsp : bs_Sp G N d' bc' bs' (.ref b :: As) h Q1) (hb : h b = some (.inr (ci, fs))) (hst : st = As.reverse ++ .ref b :: rest) (hn : As.length = N.2.2.2.2) (hW : Nat.ble (rest.map fun v => v.category).sum 8 = true) (hdd : d' + 1 ≤ d) (hbc : bc1 + bc' ≤ bc) (hbs : bs1 + bs' ≤ bs) (hp : pc + 3 = pc')
    (kk : ∀ (v : Option Value) (h' : Hp), Q1 v h' → bs_B G X M d bc1 bs1 h' pc' lv (v.toList ++ rest) Q) : bs_B G X M d bc bs h pc lv st Q := by
  subst hst
  refine bs_run (N := N) (d' := d') (vs := .ref b :: As) (fun p l e R s m args below meth c H locs cells slots ls C hH hS hc hs hls => ?_) hbc hbs hp kk
  obtain ⟨m1, m2, m3, m4, m5, m6, m7⟩ := hm
  have hTB := C.2.2.2.2.1.2.1
  have hfr := C.2.2.2.2.2.2.1
  have hlo := C.2.2.2.2.2.2.2.1
  have hpre : PreV s H N.1.cls b (bs_Pc G (.ref b :: As) h) As := ⟨bs_Pc.blind, by
    obtain ⟨ws, hP, hD, hw⟩ := id hH
    obtain ⟨q0, hq0⟩ := hw b _ hb
    cases hc0 : vwCl[ci]? with
    | none => rw [hc0] at m7; cases m7
    | some r =>
      rw [hc0] at m7
      have e7 : r.1 = N.1.cls := Option.some.inj m7
      rw [← e7]
      exact va_recv C.2.2.2.2.1.1 hP hc0 hq0, fun U hU hW => ⟨rfl, by rw [hU]; exact hH, bs_SW.warm hW (by rw [hU]; exact Nat.le_trans C.2.2.2.2.1.2.2 hS.1) C.2.2.2.2.1⟩⟩
  have hroom : (bs_rm d' bc' bs').frames + 1 ≤ R.frames ∧ 8 + (N.2.2.1 + 11) + (bs_rm d' bc' bs').locals ≤ R.locals := by
    refine ⟨Nat.le_trans hdd hfr, ?_⟩
    show 8 + (N.2.2.1 + 11) + 37 * d' ≤ R.locals
    omega
  rcases hl with hl | ⟨host, hl⟩
  · exact va_runV (Ts := []) (own := M.1.cls) (ret := N.2.2.2.1) ⟨C.1, C.2.1, C.2.2.1, C.2.2.2.1, fun w h => by cases h⟩ (hsp l) ⟨⟨rfl, rfl, hroom.1, hroom.2, bs_good (args := args) hTB m1, List.mem_singleton.mpr rfl, hTB _ m1 rfl args, hTB _ m2 rfl args, ⟨m5.1, m5.2.1⟩, bs_len m5, hTB _ hl rfl args⟩, hTB _ m3 rfl args, hTB _ m4 rfl args⟩ hpre rfl hn hls.1 rfl (lv_room (Nat.le_of_ble_eq_true hW)) hd ⟨hc, hs⟩
  · exact va_runVN (Ts := []) (own := M.1.cls) (host := host) (ret := N.2.2.2.1) ⟨C.1, C.2.1, C.2.2.1, C.2.2.2.1, fun w h => by cases h⟩ (hsp l) ⟨⟨⟨rfl, rfl, hroom.1, hroom.2, bs_good (args := args) hTB m1, List.mem_singleton.mpr rfl⟩, hTB _ m1 rfl args, hTB _ m2 rfl args, ⟨m5.1, m5.2.1⟩, bs_len m5, hTB _ hl rfl args⟩, hTB _ m3 rfl args, hTB _ m4 rfl args⟩ hpre rfl hn hls.1 rfl (lv_room (Nat.le_of_ble_eq_true hW)) hd ⟨hc, hs⟩
theorem bs_callS {N : MI} {d' bc' bs' bc1 bs1 idx : Nat} {As : List Value} {Q1 : Option Value → Hp → Prop} {rest : List Value} {pc' : Nat}
    (hd : decode M.2.1 pc = .ok (.invokestatic idx, 3)) (hl : bs_ML M.1.cls idx N.1) (hm : bs_MS N) (hsp : bs_Sp G N d' bc' bs' As h Q1) (hst : st = As.reverse ++ rest) (hn : As.length = N.2.2.2.2) (hW : Nat.ble (rest.map fun v => v.category).sum 8 = true) (hdd : d' + 1 ≤ d) (hbc : bc1 + bc' ≤ bc) (hbs : bs1 + bs' ≤ bs) (hp : pc + 3 = pc')
    (kk : ∀ (v : Option Value) (h' : Hp), Q1 v h' → bs_B G X M d bc1 bs1 h' pc' lv (v.toList ++ rest) Q) : bs_B G X M d bc bs h pc lv st Q := by
  subst hst
  refine bs_run (N := N) (d' := d') (vs := As) (fun p l e R s m args below meth c H locs cells slots ls C hH hS hc hs hls => ?_) hbc hbs hp kk
  obtain ⟨m1, m2, m3, m5, m6⟩ := hm
  have hTB := C.2.2.2.2.1.2.1
  have hfr := C.2.2.2.2.2.2.1
  have hlo := C.2.2.2.2.2.2.2.1
  have hpre : PreS s H (bs_Pc G As h) As := ⟨bs_Pc.blind, fun U hU hW => ⟨rfl, by rw [hU]; exact hH, bs_SW.warm hW (by rw [hU]; exact Nat.le_trans C.2.2.2.2.1.2.2 hS.1) C.2.2.2.2.1⟩⟩
  have hroom : (bs_rm d' bc' bs').frames + 1 ≤ R.frames ∧ 8 + (N.2.2.1 + 11) + (bs_rm d' bc' bs').locals ≤ R.locals := by
    refine ⟨Nat.le_trans hdd hfr, ?_⟩
    show 8 + (N.2.2.1 + 11) + 37 * d' ≤ R.locals
    omega
  rcases hl with hl | ⟨host, hl⟩
  · exact va_runS (Ts := []) (own := M.1.cls) (ret := N.2.2.2.1) ⟨C.1, C.2.1, C.2.2.1, C.2.2.2.1, fun w h => by cases h⟩ (hsp l) ⟨⟨rfl, rfl, hroom.1, hroom.2, bs_good (args := args) hTB m1, List.mem_singleton.mpr rfl, hTB _ m1 rfl args, hTB _ m2 rfl args, ⟨m5.1, m5.2.1⟩, bs_len m5, hTB _ hl rfl args⟩, hTB _ m3 rfl args⟩ hpre rfl hn hls.1 rfl (lv_room (Nat.le_of_ble_eq_true hW)) hd ⟨hc, hs⟩
  · exact va_runSN (Ts := []) (own := M.1.cls) (host := host) (ret := N.2.2.2.1) ⟨C.1, C.2.1, C.2.2.1, C.2.2.2.1, fun w h => by cases h⟩ (hsp l) ⟨⟨⟨rfl, rfl, hroom.1, hroom.2, bs_good (args := args) hTB m1, List.mem_singleton.mpr rfl⟩, hTB _ m1 rfl args, hTB _ m2 rfl args, ⟨m5.1, m5.2.1⟩, bs_len m5, hTB _ hl rfl args⟩, hTB _ m3 rfl args, trivial⟩ hpre rfl hn hls.1 rfl (lv_room (Nat.le_of_ble_eq_true hW)) hd ⟨hc, hs⟩
theorem bs_callI {N : MI} {d' bc' bs' bc1 bs1 idx b : Nat} {As : List Value} {Q1 : Option Value → Hp → Prop} {rest : List Value} {pc' : Nat}
    (hd : decode M.2.1 pc = .ok (.invokespecial idx, 3)) (hl : Cond.methodLink M.1.cls idx N.1 ∈ lw_tbl) (hm : bs_MC N) (hsp : bs_Sp G N d' bc' bs' (.ref b :: As) h Q1) (hst : st = As.reverse ++ .ref b :: rest) (hn : As.length = N.2.2.2.2) (hW : Nat.ble (rest.map fun v => v.category).sum 8 = true) (hdd : d' + 1 ≤ d) (hbc : bc1 + bc' ≤ bc) (hbs : bs1 + bs' ≤ bs) (hp : pc + 3 = pc')
    (kk : ∀ (v : Option Value) (h' : Hp), Q1 v h' → bs_B G X M d bc1 bs1 h' pc' lv (v.toList ++ rest) Q) : bs_B G X M d bc bs h pc lv st Q := by
  subst hst
  refine bs_run (N := N) (d' := d') (vs := .ref b :: As) (fun p l e R s m args below meth c H locs cells slots ls C hH hS hc hs hls => ?_) hbc hbs hp kk
  obtain ⟨m1, m2, m3, m5, m4, m6⟩ := hm
  have hTB := C.2.2.2.2.1.2.1
  have hfr := C.2.2.2.2.2.2.1
  have hlo := C.2.2.2.2.2.2.2.1
  have hpre : PreS s H (bs_Pc G (.ref b :: As) h) (.ref b :: As) := ⟨bs_Pc.blind, fun U hU hW => ⟨rfl, by rw [hU]; exact hH, bs_SW.warm hW (by rw [hU]; exact Nat.le_trans C.2.2.2.2.1.2.2 hS.1) C.2.2.2.2.1⟩⟩
  have hroom : (bs_rm d' bc' bs').frames + 1 ≤ R.frames ∧ 8 + (N.2.2.1 + 11) + (bs_rm d' bc' bs').locals ≤ R.locals := by
    refine ⟨Nat.le_trans hdd hfr, ?_⟩
    show 8 + (N.2.2.1 + 11) + 37 * d' ≤ R.locals
    omega
  have hsp' := hsp l
  have g0 := bs_good (args := args) hTB m1
  have g1 := hTB _ m1 rfl args
  rw [m4.2] at hsp' g0 g1
  exact va_runI (Ts := []) (own := M.1.cls) ⟨C.1, C.2.1, C.2.2.1, C.2.2.2.1, fun w h => by cases h⟩ hsp' ⟨⟨rfl, rfl, hroom.1, hroom.2, g0, List.mem_singleton.mpr rfl, g1, hTB _ m2 rfl args, ⟨m5.1, m5.2.1⟩, bs_len m5, hTB _ hl rfl args⟩, m4.1, hTB _ m3 rfl args⟩ hpre rfl hn hls.1 rfl (lv_room (Nat.le_of_ble_eq_true hW)) hd ⟨hc, hs⟩
end BsRows
