section ROWC
abbrev Rs (τ : Type) : Type := (τ ⊕ String) × mS
def BM (D : va_G) (cA : Nat → ClassId) (ad : Nat → Nat) (S : mS) (sz : Nat) (S' : mS) (ad' : Nat → Nat) (t : State) : Prop := gN S ≤ gN S' ∧ AG (gN S) ad' ad ∧ MM D vwCl cA ad' (va_A (pw cA ad S) sz) S' t.heap
def QR {τ : Type} (inj : τ → Option Value) (D : va_G) (cA : Nat → ClassId) (ad : Nat → Nat) (S : mS) (sz : Nat) (o : Rs τ) : Array Value → State → Outcome → State → Prop := fun _ st oc t => (∃ (r : τ) (S' : mS) (ad' : Nat → Nat), o = (.inl r, S') ∧ oc = .returned ((inj r).map (tv ad')) ∧ (∀ v, inj r = some v → vok (gN S') v) ∧ BM D cA ad S sz S' ad' t) ∧ va_F (va_A (pw cA ad S) sz) st t
def QX {τ : Type} (D : va_G) (cA : Nat → ClassId) (ad : Nat → Nat) (S : mS) (sz : Nat) (o : Rs τ) : String → State → State → Prop := fun E st t => (∃ (S' : mS) (ad' : Nat → Nat), o = (.inr E, S') ∧ BM D cA ad S sz S' ad' t) ∧ va_F (va_A (pw cA ad S) sz) st t
def PM (D : va_G) (cA : Nat → ClassId) (ad : Nat → Nat) (S : mS) (vs : List Value) (sz : Nat) : State → Prop := fun U => U.heap.size = sz ∧ MM D vwCl cA ad (fun _ => True) S U.heap ∧ va_K D vwCl (tyA cA) U ∧ NN U ∧ EE (va_A (pw cA ad S) sz) U U.heap ∧ (∀ v ∈ vs, vok (gN S) v) ∧ SK (kz ad) (va_A (pw cA ad S) sz) U U.heap
def CT {τ : Type} (inj : τ → Option Value) (l : Launch) (y : MethodName) (wh : Cond) (rm : Room) (S : mS) (vs : List Value) (o : Rs τ) : Prop :=
  ∀ (D : va_G) (cA : Nat → ClassId) (ad : Nat → Nat) (sz : Nat), vx_Met l y (wh :: wt) rm (va_Pc (vs.map (tv ad)) (PM D cA ad S vs sz)) (QR inj D cA ad S sz o) (QX D cA ad S sz o) rm.cells rm.slots (va_A (pw cA ad S) sz)
def CE (C : cT) (S : mS) (ret : Option FieldType) (tb : List ExceptionTableEntry) : Prop :=
  match C with
  | (p, l, e, R, s, m, args, below, meth, c, D, cA, A, n0, ad0, ex) => A = va_A (pw cA ad0 S) s.heap.size ∧ n0 = gN S ∧ meth.sig.returnType = ret ∧ c.exceptionTable.toList = tb
def QQ {τ : Type} (C : cT) (inj : τ → Option Value) (S : mS) (o : Rs τ) : State → Prop :=
  match C with
  | (p, l, e, R, s, m, args, below, meth, c, D, cA, A, n0, ad0, ex) => vx_MQ below (QR inj D cA ad0 S s.heap.size o) (QX D cA ad0 S s.heap.size o) args s R.cells R.slots (va_A (pw cA ad0 S) s.heap.size)
def XT (C : cT) (nL : Nat) (Q : State → Prop) (cs sl : Nat) (S : mS) (pc : Nat) (lv : List (Nat × Value)) (E : String) : Prop :=
  match C with
  | (p, l, e, R, s, m, args, below, meth, c, D, cA, A, n0, ad0, ex) => ∀ (ad : Nat → Nat) (H : Heap) (locs : List Loc) (ls : Array Slot) (rest : List Value) (q : Nat) (cel : Cell), n0 ≤ gN S → AG n0 ad ad0 → MM D vwCl cA ad A S H → va_S A s.heap H locs → lv_has ls nL (lv.map (fun q => (q.1, tv ad q.2)) ++ ex) → (∀ q ∈ lv, vok (gN S) q.2) → H[q]? = some cel → cel.vm = .none → s.vm.findClass E = some cel.cls → vx_W p l e R s m args below meth c H locs cs sl Q (F0 m pc ls rest) q
def XK {τ : Type} (C : cT) (nL : Nat) (Q : State → Prop) (cs sl : Nat) (inj : τ → Option Value) (o : Rs τ) (pc pn : Nat) (lv : List (Nat × Value)) (rest : List Value) : Prop := (∀ r S', o = (.inl r, S') → XX C nL Q cs sl S' pn lv ((inj r).toList ++ rest)) ∧ (∀ E S', o = (.inr E, S') → XT C nL Q cs sl S' pc lv E)
theorem xk_l {τ : Type} {C : cT} {nL : Nat} {Q : State → Prop} {cs sl : Nat} {inj : τ → Option Value} {r : τ} {S' : mS} {pc pn : Nat} {lv : List (Nat × Value)} {rest : List Value} (h : XX C nL Q cs sl S' pn lv ((inj r).toList ++ rest)) : XK C nL Q cs sl inj (.inl r, S') pc pn lv rest := ⟨fun _ _ e => (by cases e; exact h), fun _ _ e => (by cases e)⟩
theorem xk_r {τ : Type} {C : cT} {nL : Nat} {Q : State → Prop} {cs sl : Nat} {inj : τ → Option Value} {E : String} {S' : mS} {pc pn : Nat} {lv : List (Nat × Value)} {rest : List Value} (h : XT C nL Q cs sl S' pc lv E) : XK C nL Q cs sl inj (.inr E, S') pc pn lv rest := ⟨fun _ _ e => (by cases e), fun _ _ e => (by cases e; exact h)⟩
theorem lg_sl_tv (ad : Nat → Nat) (vs : List Value) : (lg_sl (vs.map (tv ad))).length = (lg_sl vs).length := by
  induction vs with
  | nil => rfl
  | cons v r ih =>
    simp only [lg_sl, List.map_cons, List.flatMap_cons, List.length_append] at ih ⊢
    rw [tv_cat]
    split <;> simp [ih]
theorem lv_args_tv (ad : Nat → Nat) (vs : List Value) : ∀ i, lv_args i (vs.map (tv ad)) = (lv_args i vs).map (fun q => (q.1, tv ad q.2)) := by
  induction vs with
  | nil => intro i; rfl
  | cons v r ih =>
    intro i
    simp only [List.map_cons, lv_args, tv_cat]
    rw [ih]
theorem lv_args_ok {N : Nat} (vs : List Value) : ∀ i, (∀ v ∈ vs, vok N v) → ∀ q ∈ lv_args i vs, vok N q.2 := by
  induction vs with
  | nil => intro i _ q hq; cases hq
  | cons v r ih =>
    intro i h q hq
    rcases List.mem_cons.mp hq with e | e
    · rw [e]; exact sok_h h
    · exact ih _ (sok_t h) q e
theorem cat_tv (ad : Nat → Nat) (st : List Value) : (st.map (tv ad)).map (fun v => v.category) = st.map (fun v => v.category) := by
  rw [List.map_map]
  exact List.map_congr_left (fun v _ => tv_cat ad v)

theorem vf_ofW {l : Launch} {y : MethodName} {ws ws' : List Cond} {rm : Room} {Pc : Array Value → State → Prop} {Qc : Array Value → State → Outcome → State → Prop} {XC : String → State → State → Prop} {mc ms : Nat} {free : Addr → Prop} {cc : ByteArray} {maxL : Nat} {ret : Option FieldType}
    (hy : plainFor y = true) (hw : ws = Cond.code y cc maxL ret :: ws')
    (body : ∀ p e s m args below meth c s₁, BodyLoose p l y (headSpec ws rm) cc maxL ret e s m args below meth c s₁ → c.maxLocals = maxL → (∀ x ∈ c.exceptionTable.toList, False) → Pc args s →
      W p l e (headSpec ws rm).room s m args below meth c s.heap [] 0 0 (vx_MQ below Qc XC args s mc ms free) (entryFrame m args maxL)) : vx_Met l y ws rm Pc Qc XC mc ms free := by
  refine MetFree.of_bodySF (code := cc) (maxLocals := maxL) (ret := ret) hy ?_ ?_
  · intro args s m h hn
    obtain ⟨meth, c, h1, h2, h3, h4, h5, h6, -, -⟩ := Cond.code_spec hn (atoms_spec (ws := ws) h _ (by rw [hw]; exact List.mem_cons_self))
    exact ⟨meth, c, h1, h2, h3, h4, h5, h6⟩
  · intro p e s m args below meth c s₁ B hml hP _
    have hh0 : s₁.heap = s.heap := by rw [B.state]; rfl
    have ht : ∀ x ∈ c.exceptionTable.toList, False := by
      obtain ⟨meth9, c9, h1, h2, -, -, -, -, h7, -⟩ := Cond.code_spec B.named (atoms_spec (ws := ws) B.pre _ (by rw [hw]; exact List.mem_cons_self))
      cases Option.some.inj (h1.symm.trans B.method)
      cases Option.some.inj (h2.symm.trans (Stand.of_body B).code)
      intro x hx
      rw [Array.isEmpty_iff.mp h7] at hx
      cases hx
    obtain ⟨t, a1, o, b1, b2, b3⟩ := body p e s m args below meth c s₁ B hml ht hP s₁ hh0 (Stand.of_body B)
    exact ⟨t, o, a1, b1, b2, b3⟩
theorem ct_of {τ : Type} {inj : τ → Option Value} {l : Launch} {y : MethodName} {b : ByteArray} {n : Nat} {ret : Option FieldType} {rm : Room} {S : mS} {vs : List Value} {o : Rs τ} (hy : plainName y.cls = true) (hl : l.stackTraces = false) (hlen : (lg_sl vs).length ≤ n)
    (body : ∀ C : cT, C.2.1 = l → CX C b n y rm → CE C S ret [] → XX C n (QQ C inj S o) 0 0 S 0 (lv_args 0 vs) []) : CT inj l y (.code y b n ret) rm S vs o := by
  intro D cA ad sz
  refine vx_ofW (cc := b) (maxL := n) (ret := ret) hy rfl ?_
  intro p e s m args below meth c s₁ B hml ht hv
  obtain ⟨rfl, rfl, hM, hK, hNN, hEE, hvs, hSK⟩ := hv
  have hall := atoms_spec B.pre
  have X := body (p, l, e, rm, s, m, (vs.map (tv ad)).toArray, below, meth, c, D, cA, va_A (pw cA ad S) s.heap.size, gN S, ad, []) rfl
    ⟨B.exec, B.bytes, hml, findClass_of_methodNamed B.named, fun w hw => hall w (List.mem_cons_of_mem _ hw), hK, fun q h => Or.inr h, hEE, hNN, B.notSynchronized, hl, rfl, (name_of_methodNamed B.named B.method).1, fun q hq => (nomatch hq), hSK⟩
    ⟨rfl, rfl, B.returns, (List.eq_nil_iff_forall_not_mem.mpr ht)⟩
  have hlv := lv_entry (vs.map (tv ad)) (n := n) (by rw [lg_sl_tv]; exact hlen)
  rw [lv_args_tv] at hlv
  rw [lg_entry_eq]
  exact X ad s.heap [] _ (Nat.le_refl _) AG.rf hM.self va_S.rf (by rw [List.append_nil]; exact hlv) (lv_args_ok vs 0 hvs) (fun v hv => nomatch hv)
theorem ct_ofF {τ : Type} {inj : τ → Option Value} {l : Launch} {y : MethodName} {b : ByteArray} {n : Nat} {ret : Option FieldType} {rm : Room} {S : mS} {vs : List Value} {o : Rs τ} (hy : plainFor y = true) (hl : l.stackTraces = false) (hlen : (lg_sl vs).length ≤ n)
    (body : ∀ C : cT, C.2.1 = l → CX C b n y rm → CE C S ret [] → XX C n (QQ C inj S o) 0 0 S 0 (lv_args 0 vs) []) : CT inj l y (.code y b n ret) rm S vs o := by
  intro D cA ad sz
  refine vf_ofW (cc := b) (maxL := n) (ret := ret) hy rfl ?_
  intro p e s m args below meth c s₁ B hml ht hv
  obtain ⟨rfl, rfl, hM, hK, hNN, hEE, hvs, hSK⟩ := hv
  have hall := atoms_spec B.pre
  have X := body (p, l, e, rm, s, m, (vs.map (tv ad)).toArray, below, meth, c, D, cA, va_A (pw cA ad S) s.heap.size, gN S, ad, []) rfl
    ⟨B.exec, B.bytes, hml, findClass_of_methodNamed B.named, fun w hw => hall w (List.mem_cons_of_mem _ hw), hK, fun q h => Or.inr h, hEE, hNN, B.notSynchronized, hl, rfl, (name_of_methodNamed B.named B.method).1, fun q hq => (nomatch hq), hSK⟩
    ⟨rfl, rfl, B.returns, (List.eq_nil_iff_forall_not_mem.mpr ht)⟩
  have hlv := lv_entry (vs.map (tv ad)) (n := n) (by rw [lg_sl_tv]; exact hlen)
  rw [lv_args_tv] at hlv
  rw [lg_entry_eq]
  exact X ad s.heap [] _ (Nat.le_refl _) AG.rf hM.self va_S.rf (by rw [List.append_nil]; exact hlv) (lv_args_ok vs 0 hvs) (fun v hv => nomatch hv)
theorem ct_ofH {τ : Type} {inj : τ → Option Value} {l : Launch} {y : MethodName} {b : ByteArray} {n : Nat} {ret : Option FieldType} {hh : List (Nat × Nat × Nat × Nat)} {rm : Room} {S : mS} {vs : List Value} {o : Rs τ} (hy : plainName y.cls = true) (hl : l.stackTraces = false) (hlen : (lg_sl vs).length ≤ n)
    (body : ∀ C : cT, C.2.1 = l → CX C b n y rm → CE C S ret (tableOf hh) → XX C n (QQ C inj S o) 0 0 S 0 (lv_args 0 vs) []) : CT inj l y (.codeWith y b n ret hh) rm S vs o := by
  intro D cA ad sz
  refine vx_ofWH (cc := b) (maxL := n) (ret := ret) hy rfl ?_
  intro p e s m args below meth c s₁ B hml hv
  obtain ⟨rfl, rfl, hM, hK, hNN, hEE, hvs, hSK⟩ := hv
  have hall := atoms_spec B.pre
  have X := body (p, l, e, rm, s, m, (vs.map (tv ad)).toArray, below, meth, c, D, cA, va_A (pw cA ad S) s.heap.size, gN S, ad, []) rfl
    ⟨B.exec, B.bytes, hml, findClass_of_methodNamed B.named, fun w hw => hall w (List.mem_cons_of_mem _ hw), hK, fun q h => Or.inr h, hEE, hNN, B.notSynchronized, hl, rfl, (name_of_methodNamed B.named B.method).1, fun q hq => (nomatch hq), hSK⟩
    ⟨rfl, rfl, B.returns, (vx_table (x := y) B (hall _ List.mem_cons_self))⟩
  have hlv := lv_entry (vs.map (tv ad)) (n := n) (by rw [lg_sl_tv]; exact hlen)
  rw [lv_args_tv] at hlv
  rw [lg_entry_eq]
  exact X ad s.heap [] _ (Nat.le_refl _) AG.rf hM.self va_S.rf (by rw [List.append_nil]; exact hlv) (lv_args_ok vs 0 hvs) (fun v hv => nomatch hv)
variable {C : cT} {cc : ByteArray} {nL : Nat} {y : MethodName} {rm : Room} {Q : State → Prop} {cs sl : Nat} {S : mS} {pc : Nat} {lv : List (Nat × Value)} {st : List Value}

theorem x_ireturn {S0 : mS} {tb : List ExceptionTableEntry} {v : Int32} {o : Rs Int32} (hC : CX C cc nL y rm) (hE : CE C S0 (some .int) tb) (hd : decode cc pc = .ok (.ireturn, 1)) (ho : o = (.inl v, S)) (h1 : cs ≤ rm.cells) (h2 : sl ≤ rm.slots) : XX C nL (QQ C (fun r : Int32 => some (.int r)) S0 o) cs sl S pc lv [.int v] := by
  obtain ⟨p, l, e, R, s, m, args, below, meth, c, D, cA, A, n0, ad0, ex⟩ := C
  intro ad H locs ls h0 ha hM hS hl hlo hso
  obtain ⟨e1, e2, e3, e4⟩ := hE
  have hR : R = rm := hC.2.2.2.2.2.2.2.2.2.2.2.1
  subst hR
  subst e1
  subst e2
  exact W.widen h1 h2 (vx_ret (W.iret hC.1 hC.2.1 e3 (fun t ht hW => ⟨⟨v, S, ad, ho, rfl, fun v9 h9 => (by cases h9; trivial), h0, ha, by rw [ht]; exact hM⟩, hS.F ht⟩) hS.2.2 hd hC.2.2.2.2.2.2.2.2.2.1))
theorem x_lreturn {S0 : mS} {tb : List ExceptionTableEntry} {v : Int64} {o : Rs Int64} (hC : CX C cc nL y rm) (hE : CE C S0 (some .long) tb) (hd : decode cc pc = .ok (.lreturn, 1)) (ho : o = (.inl v, S)) (h1 : cs ≤ rm.cells) (h2 : sl ≤ rm.slots) : XX C nL (QQ C (fun r : Int64 => some (.long r)) S0 o) cs sl S pc lv [.long v] := by
  obtain ⟨p, l, e, R, s, m, args, below, meth, c, D, cA, A, n0, ad0, ex⟩ := C
  intro ad H locs ls h0 ha hM hS hl hlo hso
  obtain ⟨e1, e2, e3, e4⟩ := hE
  have hR : R = rm := hC.2.2.2.2.2.2.2.2.2.2.2.1
  subst hR
  subst e1
  subst e2
  exact W.widen h1 h2 (vx_ret (W.lret hC.1 hC.2.1 e3 (fun t ht hW => ⟨⟨v, S, ad, ho, rfl, fun v9 h9 => (by cases h9; trivial), h0, ha, by rw [ht]; exact hM⟩, hS.F ht⟩) hS.2.2 hd hC.2.2.2.2.2.2.2.2.2.1))
theorem x_freturn {S0 : mS} {tb : List ExceptionTableEntry} {v : UInt32} {o : Rs UInt32} (hC : CX C cc nL y rm) (hE : CE C S0 (some .float) tb) (hd : decode cc pc = .ok (.freturn, 1)) (ho : o = (.inl v, S)) (h1 : cs ≤ rm.cells) (h2 : sl ≤ rm.slots) : XX C nL (QQ C (fun r : UInt32 => some (.float r)) S0 o) cs sl S pc lv [.float v] := by
  obtain ⟨p, l, e, R, s, m, args, below, meth, c, D, cA, A, n0, ad0, ex⟩ := C
  intro ad H locs ls h0 ha hM hS hl hlo hso
  obtain ⟨e1, e2, e3, e4⟩ := hE
  have hR : R = rm := hC.2.2.2.2.2.2.2.2.2.2.2.1
  subst hR
  subst e1
  subst e2
  exact W.widen h1 h2 (vx_ret (W.fret hC.1 hC.2.1 e3 (fun t ht hW => ⟨⟨v, S, ad, ho, rfl, fun v9 h9 => (by cases h9; trivial), h0, ha, by rw [ht]; exact hM⟩, hS.F ht⟩) hS.2.2 hd hC.2.2.2.2.2.2.2.2.2.1))
theorem x_dreturn {S0 : mS} {tb : List ExceptionTableEntry} {v : UInt64} {o : Rs UInt64} (hC : CX C cc nL y rm) (hE : CE C S0 (some .double) tb) (hd : decode cc pc = .ok (.dreturn, 1)) (ho : o = (.inl v, S)) (h1 : cs ≤ rm.cells) (h2 : sl ≤ rm.slots) : XX C nL (QQ C (fun r : UInt64 => some (.double r)) S0 o) cs sl S pc lv [.double v] := by
  obtain ⟨p, l, e, R, s, m, args, below, meth, c, D, cA, A, n0, ad0, ex⟩ := C
  intro ad H locs ls h0 ha hM hS hl hlo hso
  obtain ⟨e1, e2, e3, e4⟩ := hE
  have hR : R = rm := hC.2.2.2.2.2.2.2.2.2.2.2.1
  subst hR
  subst e1
  subst e2
  exact W.widen h1 h2 (vx_ret (W.dret hC.1 hC.2.1 e3 (fun t ht hW => ⟨⟨v, S, ad, ho, rfl, fun v9 h9 => (by cases h9; trivial), h0, ha, by rw [ht]; exact hM⟩, hS.F ht⟩) hS.2.2 hd hC.2.2.2.2.2.2.2.2.2.1))
theorem x_zreturn {S0 : mS} {tb : List ExceptionTableEntry} {v : Int32} {ty : FieldType} {o : Rs Int32} (hC : CX C cc nL y rm) (hE : CE C S0 (some ty) tb) (hd : decode cc pc = .ok (.ireturn, 1)) (hn : narrow ty (.int v) = .int v) (ho : o = (.inl v, S)) (h1 : cs ≤ rm.cells) (h2 : sl ≤ rm.slots) : XX C nL (QQ C (fun r : Int32 => some (.int r)) S0 o) cs sl S pc lv [.int v] := by
  obtain ⟨p, l, e, R, s, m, args, below, meth, c, D, cA, A, n0, ad0, ex⟩ := C
  intro ad H locs ls h0 ha hM hS hl hlo hso
  obtain ⟨e1, e2, e3, e4⟩ := hE
  have hR : R = rm := hC.2.2.2.2.2.2.2.2.2.2.2.1
  subst hR
  subst e1
  subst e2
  exact W.widen h1 h2 (vx_ret (W.zret hC.1 hC.2.1 e3 hn (fun t ht hW => ⟨⟨v, S, ad, ho, rfl, fun v9 h9 => (by cases h9; trivial), h0, ha, by rw [ht]; exact hM⟩, hS.F ht⟩) hS.2.2 hd hC.2.2.2.2.2.2.2.2.2.1))
theorem x_vreturn {S0 : mS} {tb : List ExceptionTableEntry} {o : Rs Unit} (hC : CX C cc nL y rm) (hE : CE C S0 none tb) (hd : decode cc pc = .ok (.return_, 1)) (ho : o = (.inl (), S)) (h1 : cs ≤ rm.cells) (h2 : sl ≤ rm.slots) : XX C nL (QQ C (fun _ : Unit => none) S0 o) cs sl S pc lv [] := by
  obtain ⟨p, l, e, R, s, m, args, below, meth, c, D, cA, A, n0, ad0, ex⟩ := C
  intro ad H locs ls h0 ha hM hS hl hlo hso
  obtain ⟨e1, e2, e3, e4⟩ := hE
  have hR : R = rm := hC.2.2.2.2.2.2.2.2.2.2.2.1
  subst hR
  subst e1
  subst e2
  exact W.widen h1 h2 (vx_ret (W.vret hC.1 hC.2.1 e3 (fun t ht hW => ⟨⟨(), S, ad, ho, rfl, fun v9 h9 => (by cases h9), h0, ha, by rw [ht]; exact hM⟩, hS.F ht⟩) hS.2.2 hd hC.2.2.2.2.2.2.2.2.2.1))
theorem x_areturn {S0 : mS} {tb : List ExceptionTableEntry} {v : Nat} {rt : FieldType} {o : Rs Nat} (hC : CX C cc nL y rm) (hE : CE C S0 (some rt) tb) (hrt : (∃ n, rt = .object n) ∨ ∃ t, rt = .array t) (hd : decode cc pc = .ok (.areturn, 1)) (ho : o = (.inl v, S)) (h1 : cs ≤ rm.cells) (h2 : sl ≤ rm.slots) : XX C nL (QQ C (fun r : Nat => some (.ref r)) S0 o) cs sl S pc lv [.ref v] := by
  obtain ⟨p, l, e, R, s, m, args, below, meth, c, D, cA, A, n0, ad0, ex⟩ := C
  intro ad H locs ls h0 ha hM hS hl hlo hso
  obtain ⟨e1, e2, e3, e4⟩ := hE
  have hR : R = rm := hC.2.2.2.2.2.2.2.2.2.2.2.1
  subst hR
  subst e1
  subst e2
  exact W.widen h1 h2 (vx_ret (W.aret hC.1 hC.2.1 e3 hrt (by
    show rv ad v = _ ∨ ∃ a, rv ad v = _
    by_cases hv : v = 0
    · subst hv; exact Or.inl rfl
    · exact Or.inr ⟨_, rv_pos hv⟩) (fun t ht hW => ⟨⟨v, S, ad, ho, rfl, fun v9 h9 => (by cases h9; exact sok_h hso), h0, ha, by rw [ht]; exact hM⟩, hS.F ht⟩) hS.2.2 hd hC.2.2.2.2.2.2.2.2.2.1))
theorem xt_out {τ : Type} {inj : τ → Option Value} {S0 : mS} {ret : Option FieldType} {E : String} {o : Rs τ} (hC : CX C cc nL y rm) (hE : CE C S0 ret []) (ho : o = (.inr E, S)) (h1 : cs ≤ rm.cells) (h2 : sl ≤ rm.slots) : XT C nL (QQ C inj S0 o) cs sl S pc lv E := by
  obtain ⟨p, l, e, R, s, m, args, below, meth, c, D, cA, A, n0, ad0, ex⟩ := C
  intro ad H locs ls rest q cel h0 ha hM hS hl hlo hcell hv hcl
  obtain ⟨e1, e2, e3, e4⟩ := hE
  have hR : R = rm := hC.2.2.2.2.2.2.2.2.2.2.2.1
  subst hR
  subst e1
  subst e2
  exact vx_out (by rw [e4]; exact fun x hx => nomatch hx) hC.2.2.2.2.2.2.2.2.2.1 hcell hv hcl (fun t ht hal => ⟨⟨S, ad, ho, h0, ha, by rw [ht]; exact hM⟩, hS.F ht⟩) hS.2.2 h1 h2

theorem run_fin {p : Program} {l : Launch} {e : Env} {R : Room} {s : State} {m : MethodId} {args : Array Value} {below : List Frame} {meth : Method} {c : Code} {D : va_G} {cA : Nat → ClassId} {A : Nat → Prop} {n0 : Nat} {ad0 : Nat → Nat} {ex : List (Nat × Value)} {τ : Type} {inj : τ → Option Value} {o : Rs τ} {ad : Nat → Nat} {H : Heap} {locs : List Loc} {ls : Array Slot} {rest st1 : List Value} {mc ms : Nat} {a : Array Value} {nL : Nat} {Q : State → Prop} {cs sl : Nat} {S : mS} {pc : Nat} {lv : List (Nat × Value)}
    (hCA : ∀ q, s.heap.size ≤ q → A q) (h0 : n0 ≤ gN S) (ha : AG n0 ad ad0) (hM : MM D vwCl cA ad A S H) (hS : va_S A s.heap H locs) (hl : lv_has ls nL (lv.map (fun q => (q.1, tv ad q.2)) ++ ex)) (hlo : ∀ q ∈ lv, vok (gN S) q.2) (hso : ∀ v ∈ rest, vok (gN S) v)
    (hr : vx_Run p l e R s m args below meth c H locs cs sl mc ms (F0 m pc ls st1) (rest.map (tv ad)) (QR inj D cA ad S H.size o a) (QX D cA ad S H.size o) (va_A (pw cA ad S) H.size))
    (k : XK (p, l, e, R, s, m, args, below, meth, c, D, cA, A, n0, ad0, ex) nL Q (cs + mc) (sl + ms) inj o pc (pc + 3) lv rest) : W p l e R s m args below meth c H locs cs sl Q (F0 m pc ls st1) := by
  intro T hT X
  have hfr := hM.free hS hCA
  rcases hr T hT X with ⟨v, st₀, t, T', L, g0, X', hL, g1, g2, ⟨⟨r, S', ad', ho, hv, hok, b1, b2, b3⟩, hF⟩, stp⟩ | ⟨q, st₀, t, T', L, E, cel, g0, X', hL, g1, g2, ⟨⟨S', ad', ho, b1, b2, b3⟩, hF⟩, hce, hcv, hcl, stp⟩
  · cases hv
    obtain ⟨k1, k2, k3⟩ := vx_keep g0 g1 hS (fun q _ h => hfr q h) hfr hL hF
    have Y := k.1 r S' ho ad' T'.heap (locs ++ L) ls (Nat.le_trans h0 b1) (b2.tr h0 ha) (by rw [g1]; exact b3.weaken hfr) k3 (by rw [tvl_eq b2 hlo]; exact hl) (fun q hq => vok_mono b1 (hlo q hq)) (by
      intro x hx
      rcases List.mem_append.mp hx with h | h
      · exact hok x (by cases hi : inj r with
          | none => rw [hi] at h; cases h
          | some z => rw [hi] at h; rcases List.mem_cons.mp h with h | h
                      · rw [h]
                      · cases h)
      · exact vok_mono b1 (hso x h))
    rw [List.map_append, tvs_eq b2 hso] at Y
    have e9 : ((inj r).toList).map (tv ad') = ((inj r).map (tv ad')).toList := by cases inj r <;> rfl
    rw [e9] at Y
    obtain ⟨t2, a1, b1⟩ := Y T' rfl X'
    exact ⟨t2, stp t2 a1, b1⟩
  · obtain ⟨k1, k2, k3⟩ := vx_keep g0 g1 hS (fun q _ h => hfr q h) hfr hL hF
    obtain ⟨t2, a1, b1⟩ := k.2 E S' ho ad' T'.heap (locs ++ L) ls (rest.map (tv ad)) q cel (Nat.le_trans h0 b1) (b2.tr h0 ha) (by rw [g1]; exact b3.weaken hfr) k3 (by rw [tvl_eq b2 hlo]; exact hl) (fun q hq => vok_mono b1 (hlo q hq)) (by rw [g1]; exact hce) hcv hcl T' rfl X'
    exact ⟨t2, stp.trans a1, b1⟩
theorem run_fin5 {p : Program} {l : Launch} {e : Env} {R : Room} {s : State} {m : MethodId} {args : Array Value} {below : List Frame} {meth : Method} {c : Code} {D : va_G} {cA : Nat → ClassId} {A : Nat → Prop} {n0 : Nat} {ad0 : Nat → Nat} {ex : List (Nat × Value)} {τ : Type} {inj : τ → Option Value} {o : Rs τ} {ad : Nat → Nat} {H : Heap} {locs : List Loc} {ls : Array Slot} {rest st1 : List Value} {mc ms : Nat} {a : Array Value} {nL : Nat} {Q : State → Prop} {cs sl : Nat} {S : mS} {pc : Nat} {lv : List (Nat × Value)}
    (hCA : ∀ q, s.heap.size ≤ q → A q) (h0 : n0 ≤ gN S) (ha : AG n0 ad ad0) (hM : MM D vwCl cA ad A S H) (hS : va_S A s.heap H locs) (hl : lv_has ls nL (lv.map (fun q => (q.1, tv ad q.2)) ++ ex)) (hlo : ∀ q ∈ lv, vok (gN S) q.2) (hso : ∀ v ∈ rest, vok (gN S) v)
    (hr : vx_Run5 p l e R s m args below meth c H locs cs sl mc ms (F0 m pc ls st1) (rest.map (tv ad)) (QR inj D cA ad S H.size o a) (QX D cA ad S H.size o) (va_A (pw cA ad S) H.size))
    (k : XK (p, l, e, R, s, m, args, below, meth, c, D, cA, A, n0, ad0, ex) nL Q (cs + mc) (sl + ms) inj o pc (pc + 5) lv rest) : W p l e R s m args below meth c H locs cs sl Q (F0 m pc ls st1) := by
  intro T hT X
  have hfr := hM.free hS hCA
  rcases hr T hT X with ⟨v, st₀, t, T', L, g0, X', hL, g1, g2, ⟨⟨r, S', ad', ho, hv, hok, b1, b2, b3⟩, hF⟩, stp⟩ | ⟨q, st₀, t, T', L, E, cel, g0, X', hL, g1, g2, ⟨⟨S', ad', ho, b1, b2, b3⟩, hF⟩, hce, hcv, hcl, stp⟩
  · cases hv
    obtain ⟨k1, k2, k3⟩ := vx_keep g0 g1 hS (fun q _ h => hfr q h) hfr hL hF
    have Y := k.1 r S' ho ad' T'.heap (locs ++ L) ls (Nat.le_trans h0 b1) (b2.tr h0 ha) (by rw [g1]; exact b3.weaken hfr) k3 (by rw [tvl_eq b2 hlo]; exact hl) (fun q hq => vok_mono b1 (hlo q hq)) (by
      intro x hx
      rcases List.mem_append.mp hx with h | h
      · exact hok x (by cases hi : inj r with
          | none => rw [hi] at h; cases h
          | some z => rw [hi] at h; rcases List.mem_cons.mp h with h | h
                      · rw [h]
                      · cases h)
      · exact vok_mono b1 (hso x h))
    rw [List.map_append, tvs_eq b2 hso] at Y
    have e9 : ((inj r).toList).map (tv ad') = ((inj r).map (tv ad')).toList := by cases inj r <;> rfl
    rw [e9] at Y
    obtain ⟨t2, a1, b1⟩ := Y T' rfl X'
    exact ⟨t2, stp t2 a1, b1⟩
  · obtain ⟨k1, k2, k3⟩ := vx_keep g0 g1 hS (fun q _ h => hfr q h) hfr hL hF
    obtain ⟨t2, a1, b1⟩ := k.2 E S' ho ad' T'.heap (locs ++ L) ls (rest.map (tv ad)) q cel (Nat.le_trans h0 b1) (b2.tr h0 ha) (by rw [g1]; exact b3.weaken hfr) k3 (by rw [tvl_eq b2 hlo]; exact hl) (fun q hq => vok_mono b1 (hlo q hq)) (by rw [g1]; exact hce) hcv hcl T' rfl X'
    exact ⟨t2, stp.trans a1, b1⟩
theorem pm_blind {D : va_G} {cA : Nat → ClassId} {ad : Nat → Nat} {S : mS} {vs : List Value} {sz : Nat} {av : List Value} : FrameBlind (va_Pc av (PM D cA ad S vs sz)) := fun a U g mk q => by
  obtain ⟨h1, h2, h3, h4, h5, h6, h7, h8⟩ := q
  have hal : U.vm.Alike (U.calling g mk a).vm := Vm.Alike.refl U.vm
  exact ⟨h1, h2, h3, va_K.moved (u := U) (U := U.calling g mk a) hal h4, NN.moved (s := U) (U := U.calling g mk a) (State.WarmedH.refl U) h5, ⟨vx_Zq.moved (u := U) (U := U.calling g mk a) hal h6.1, vx_Zq.moved (u := U) (U := U.calling g mk a) hal h6.2⟩, h7, SK.moved (s := U) (U := U.calling g mk a) (State.WarmedH.refl U) h8⟩
theorem pm_at {s U : State} {D : va_G} {cA : Nat → ClassId} {A : Nat → Prop} {ad : Nat → Nat} {S : mS} {H : Heap} {locs : List Loc} {vs : List Value} (hK : va_K D vwCl (tyA cA) s) (hCA : ∀ q, s.heap.size ≤ q → A q) (hEE : EE A s s.heap) (hNN : NN s) (hM : MM D vwCl cA ad A S H) (hS : va_S A s.heap H locs) (hvs : ∀ v ∈ vs, vok (gN S) v) (hSK : SK (kz ad) A s s.heap) (hU : U.heap = H) (hW : s.WarmedH U.vm) : PM D cA ad S vs H.size U := by
  have hfr := hM.free hS hCA
  refine ⟨by rw [hU], by rw [hU]; exact hM.weaken (fun _ _ => trivial), va_K.moved hW.alike hK, NN.moved hW hNN, ?_, hvs, by rw [hU]; exact ((hSK.kept hS.2.1).moved hW).narrow hfr⟩
  rw [hU]
  exact ⟨((hEE.1.kept hS.2.1).moved hW.alike).narrow hfr, ((hEE.2.kept hS.2.1).moved hW.alike).narrow hfr⟩
def notMH (y : MethodName) (n : Nat) : Prop := (y.cls ≠ "java/lang/invoke/MethodHandle" ∧ y.cls ≠ "java/lang/invoke/VarHandle") ∧ (parseMethodDescriptor y.desc).map (fun d => d.parameters.length) = some n
theorem notMH.len {y : MethodName} {n : Nat} (h : notMH y n) : ∀ sig, parseMethodDescriptor y.desc = some sig → n = sig.parameters.length := fun sig hs => by
  have h2 := h.2
  rw [hs] at h2
  exact (Option.some.inj h2).symm
theorem wt_ws {s : State} {args : Array Value} {wh : Cond} (ht : ∀ w ∈ wt, w.before args s = true) (hwh : wh ∈ wt) : ∀ w ∈ wh :: wt, ∀ (a' : Array Value) (U : State), s.WarmedH U.vm → w.before a' U = true := fun w hw a' U hW => by
  have hm : w ∈ wt := by
    rcases List.mem_cons.mp hw with h | h
    · rw [h]; exact hwh
    · exact h
  exact word_at hW (wt_good hm) (ht w hm)
def LKS (own : String) (index : Nat) (y : MethodName) (wh : Cond) (na : Nat) : Prop := Cond.methodLink own index y ∈ wt ∧ Cond.static y ∈ wt ∧ Cond.initialized y.cls ∈ wt ∧ wh ∈ wt ∧ notMH y na
def LKV (own : String) (index : Nat) (y : MethodName) (wh : Cond) (na : Nat) : Prop := Cond.methodLink own index y ∈ wt ∧ Cond.instanceMethod y ∈ wt ∧ Cond.selects y.cls y y ∈ wt ∧ Cond.initialized y.cls ∈ wt ∧ wh ∈ wt ∧ notMH y na
def LKI (own : String) (index : Nat) (y : MethodName) (wh : Cond) (na : Nat) : Prop := (Cond.methodLink own index y ∈ wt ∨ ∃ host, Cond.methodLinkNest own index y host ∈ wn) ∧ Cond.instanceMethod y ∈ wt ∧ Cond.initialized y.cls ∈ wt ∧ wh ∈ wt ∧ y.name = "<init>" ∧ notMH y na
def LKF (own : String) (index : Nat) (CN : String) (x y : MethodName) (wh : Cond) (na : Nat) : Prop := Cond.methodLink own index x ∈ wt ∧ Cond.selects CN x y ∈ wt ∧ Cond.instanceMethod y ∈ wt ∧ Cond.initialized y.cls ∈ wt ∧ wh ∈ wt ∧ notMH x na ∧ Cond.declares x ∈ wn ∧ Cond.interfaceMethod x.cls x.cls x.name x.desc ∈ wn ∧ Cond.publicMethod y ∈ wn ∧ Cond.unhidden CN x.name x.desc ∈ wn ∧ Cond.castable CN x.cls ∈ wn

theorem x_callS {τ : Type} {inj : τ → Option Value} {o : Rs τ} {l1 : Launch} {y1 : MethodName} {b1 : ByteArray} {n1 index na : Nat} {ret1 : Option FieldType} {rm1 : Room} {As rest : List Value} (hC : CX C cc nL y rm) (hl1 : C.2.1 = l1) (hct : CT inj l1 y1 (.code y1 b1 n1 ret1) rm1 S As o) (hL : LKS y.cls index y1 (.code y1 b1 n1 ret1) na) (hd : decode cc pc = .ok (.invokestatic index, 3)) (hn : As.length = na) (hst : st = As.reverse ++ rest) (hr : (rest.map fun v => v.category).sum ≤ 8) (hf : rm1.frames + 1 ≤ rm.frames ∧ 8 + (n1 + 11) + rm1.locals ≤ rm.locals) (hc : cs + rm1.cells ≤ rm.cells ∧ sl + rm1.slots ≤ rm.slots) (k : XK C nL Q (cs + rm1.cells) (sl + rm1.slots) inj o pc (pc + 3) lv rest) : XX C nL Q cs sl S pc lv st := by
  obtain ⟨p, l, e, R, s, m, args, below, meth, c, D, cA, A, n0, ad0, ex⟩ := C
  intro ad H locs ls h0 ha hM hS hl hlo hso
  subst hl1
  have hR : R = rm := hC.2.2.2.2.2.2.2.2.2.2.2.1
  subst hR
  subst hst
  have hvs : ∀ v ∈ As, vok (gN S) v := fun v hv => hso v (List.mem_append_left _ (List.mem_reverse.mpr hv))
  have hrs : ∀ v ∈ rest, vok (gN S) v := fun v hv => hso v (List.mem_append_right _ hv)
  exact run_fin hC.2.2.2.2.2.2.1 h0 ha hM hS hl hlo hrs (vx_runS (As := As.map (tv ad)) (rest := rest.map (tv ad)) ⟨hC.1, hC.2.1, hC.2.2.1, hC.2.2.2.1, hC.2.2.2.2.1⟩ (hct D cA ad H.size) ⟨⟨rfl, rfl, hf.1, hf.2, wt_ws hC.2.2.2.2.1 hL.2.2.2.1, List.mem_cons_self, hC.2.2.2.2.1 _ hL.2.2.2.1, hC.2.2.2.2.1 _ hL.2.2.1, hL.2.2.2.2.1, hL.2.2.2.2.len, hC.2.2.2.2.1 _ hL.1⟩, hC.2.2.2.2.1 _ hL.2.1⟩ ⟨pm_blind, fun U hU hW => ⟨rfl, pm_at hC.2.2.2.2.2.1 hC.2.2.2.2.2.2.1 hC.2.2.2.2.2.2.2.1 hC.2.2.2.2.2.2.2.2.1 hM hS hvs (by rw [kz_ag ha]; exact hC.2.2.2.2.2.2.2.2.2.2.2.2.2.2) hU hW⟩⟩ rfl (by rw [List.length_map]; exact hn) hl.1 (by rw [List.map_append, List.map_reverse]) (lv_room (by rw [cat_tv]; exact hr)) hd hc) k
theorem x_callH {τ : Type} {inj : τ → Option Value} {o : Rs τ} {l1 : Launch} {y1 : MethodName} {b1 : ByteArray} {n1 index na : Nat} {ret1 : Option FieldType} {hh : List (Nat × Nat × Nat × Nat)} {rm1 : Room} {As rest : List Value} (hC : CX C cc nL y rm) (hl1 : C.2.1 = l1) (hct : CT inj l1 y1 (.codeWith y1 b1 n1 ret1 hh) rm1 S As o) (hL : LKS y.cls index y1 (.codeWith y1 b1 n1 ret1 hh) na) (hd : decode cc pc = .ok (.invokestatic index, 3)) (hn : As.length = na) (hst : st = As.reverse ++ rest) (hr : (rest.map fun v => v.category).sum ≤ 8) (hf : rm1.frames + 1 ≤ rm.frames ∧ 8 + (n1 + 11) + rm1.locals ≤ rm.locals) (hc : cs + rm1.cells ≤ rm.cells ∧ sl + rm1.slots ≤ rm.slots) (k : XK C nL Q (cs + rm1.cells) (sl + rm1.slots) inj o pc (pc + 3) lv rest) : XX C nL Q cs sl S pc lv st := by
  obtain ⟨p, l, e, R, s, m, args, below, meth, c, D, cA, A, n0, ad0, ex⟩ := C
  intro ad H locs ls h0 ha hM hS hl hlo hso
  subst hl1
  have hR : R = rm := hC.2.2.2.2.2.2.2.2.2.2.2.1
  subst hR
  subst hst
  have hvs : ∀ v ∈ As, vok (gN S) v := fun v hv => hso v (List.mem_append_left _ (List.mem_reverse.mpr hv))
  have hrs : ∀ v ∈ rest, vok (gN S) v := fun v hv => hso v (List.mem_append_right _ hv)
  exact run_fin hC.2.2.2.2.2.2.1 h0 ha hM hS hl hlo hrs (vx_runSX (As := As.map (tv ad)) (rest := rest.map (tv ad)) ⟨hC.1, hC.2.1, hC.2.2.1, hC.2.2.2.1, hC.2.2.2.2.1⟩ (hct D cA ad H.size) ⟨⟨rfl, rfl, hf.1, hf.2, wt_ws hC.2.2.2.2.1 hL.2.2.2.1, List.mem_cons_self⟩, hC.2.2.2.2.1 _ hL.2.2.2.1, hC.2.2.2.2.1 _ hL.2.2.1, hL.2.2.2.2.1, hL.2.2.2.2.len, hC.2.2.2.2.1 _ hL.1, hC.2.2.2.2.1 _ hL.2.1⟩ ⟨pm_blind, fun U hU hW => ⟨rfl, pm_at hC.2.2.2.2.2.1 hC.2.2.2.2.2.2.1 hC.2.2.2.2.2.2.2.1 hC.2.2.2.2.2.2.2.2.1 hM hS hvs (by rw [kz_ag ha]; exact hC.2.2.2.2.2.2.2.2.2.2.2.2.2.2) hU hW⟩⟩ rfl (by rw [List.length_map]; exact hn) hl.1 (by rw [List.map_append, List.map_reverse]) (lv_room (by rw [cat_tv]; exact hr)) hd hc) k
theorem x_callV {τ : Type} {inj : τ → Option Value} {o : Rs τ} {l1 : Launch} {y1 : MethodName} {b1 : ByteArray} {n1 index na r ci N : Nat} {T : u_T} {ty : Nat → FieldType} {ret1 : Option FieldType} {rm1 : Room} {As rest : List Value} (hC : CX C cc nL y rm) (hl1 : C.2.1 = l1) (hct : CT inj l1 y1 (.code y1 b1 n1 ret1) rm1 S (.ref r :: As) o) (hL : LKV y.cls index y1 (.code y1 b1 n1 ret1) na) (hF : FC ci y1.cls T N ty) (hk : gK S r = ci + 1) (hd : decode cc pc = .ok (.invokevirtual index, 3)) (hn : As.length = na) (hst : st = As.reverse ++ .ref r :: rest) (hr : (rest.map fun v => v.category).sum ≤ 8) (hf : rm1.frames + 1 ≤ rm.frames ∧ 8 + (n1 + 11) + rm1.locals ≤ rm.locals) (hc : cs + rm1.cells ≤ rm.cells ∧ sl + rm1.slots ≤ rm.slots) (k : XK C nL Q (cs + rm1.cells) (sl + rm1.slots) inj o pc (pc + 3) lv rest) : XX C nL Q cs sl S pc lv st := by
  obtain ⟨p, l, e, R, s, m, args, below, meth, c, D, cA, A, n0, ad0, ex⟩ := C
  intro ad H locs ls h0 ha hM hS hl hlo hso
  subst hl1
  have hR : R = rm := hC.2.2.2.2.2.2.2.2.2.2.2.1
  subst hR
  subst hst
  have hvs : ∀ v ∈ Value.ref r :: As, vok (gN S) v := fun v hv => by
    rcases List.mem_cons.mp hv with h | h
    · exact hso v (List.mem_append_right _ (by rw [h]; exact List.mem_cons_self))
    · exact hso v (List.mem_append_left _ (List.mem_reverse.mpr h))
  have hrs : ∀ v ∈ rest, vok (gN S) v := fun v hv => hso v (List.mem_append_right _ (List.mem_cons_of_mem _ hv))
  have he := hM.obj hk hF.2.2.2.2.1
  have hp := (hM.pos hk (Nat.succ_le_succ (Nat.zero_le _))).1
  have er : tv ad (.ref r) = .ref (ad r) := tv_pos hp
  have hrec := va_recv hC.2.2.2.2.2.1 hM.1 hF.1 he
  exact run_fin hC.2.2.2.2.2.2.1 h0 ha hM hS hl hlo hrs (vx_runV (b := ad r) (As := As.map (tv ad)) (rest := rest.map (tv ad)) (C := y1.cls) ⟨hC.1, hC.2.1, hC.2.2.1, hC.2.2.2.1, hC.2.2.2.2.1⟩ (hct D cA ad H.size) ⟨⟨rfl, rfl, hf.1, hf.2, wt_ws hC.2.2.2.2.1 hL.2.2.2.2.1, List.mem_cons_self, hC.2.2.2.2.1 _ hL.2.2.2.2.1, hC.2.2.2.2.1 _ hL.2.2.2.1, hL.2.2.2.2.2.1, hL.2.2.2.2.2.len, hC.2.2.2.2.1 _ hL.1⟩, hC.2.2.2.2.1 _ hL.2.1, hC.2.2.2.2.1 _ hL.2.2.1⟩ ⟨pm_blind, hrec, fun U hU hW => ⟨by rw [List.map_cons, er], pm_at hC.2.2.2.2.2.1 hC.2.2.2.2.2.2.1 hC.2.2.2.2.2.2.2.1 hC.2.2.2.2.2.2.2.2.1 hM hS hvs (by rw [kz_ag ha]; exact hC.2.2.2.2.2.2.2.2.2.2.2.2.2.2) hU hW⟩⟩ rfl (by rw [List.length_map]; exact hn) hl.1 (by rw [List.map_append, List.map_reverse, List.map_cons, er]) (lv_room (by rw [cat_tv]; exact hr)) hd hc) k
theorem x_callI {τ : Type} {inj : τ → Option Value} {o : Rs τ} {l1 : Launch} {y1 : MethodName} {b1 : ByteArray} {n1 index na r : Nat} {rm1 : Room} {As rest : List Value} (hC : CX C cc nL y rm) (hl1 : C.2.1 = l1) (hct : CT inj l1 y1 (.code y1 b1 n1 none) rm1 S (.ref r :: As) o) (hL : LKI y.cls index y1 (.code y1 b1 n1 none) na) (hk : gK S r ≠ 0) (hd : decode cc pc = .ok (.invokespecial index, 3)) (hn : As.length = na) (hst : st = As.reverse ++ .ref r :: rest) (hr : (rest.map fun v => v.category).sum ≤ 8) (hf : rm1.frames + 1 ≤ rm.frames ∧ 8 + (n1 + 11) + rm1.locals ≤ rm.locals) (hc : cs + rm1.cells ≤ rm.cells ∧ sl + rm1.slots ≤ rm.slots) (k : XK C nL Q (cs + rm1.cells) (sl + rm1.slots) inj o pc (pc + 3) lv rest) : XX C nL Q cs sl S pc lv st := by
  obtain ⟨p, l, e, R, s, m, args, below, meth, c, D, cA, A, n0, ad0, ex⟩ := C
  intro ad H locs ls h0 ha hM hS hl hlo hso
  subst hl1
  have hR : R = rm := hC.2.2.2.2.2.2.2.2.2.2.2.1
  subst hR
  subst hst
  have hvs : ∀ v ∈ Value.ref r :: As, vok (gN S) v := fun v hv => by
    rcases List.mem_cons.mp hv with h | h
    · exact hso v (List.mem_append_right _ (by rw [h]; exact List.mem_cons_self))
    · exact hso v (List.mem_append_left _ (List.mem_reverse.mpr h))
  have hrs : ∀ v ∈ rest, vok (gN S) v := fun v hv => hso v (List.mem_append_right _ (List.mem_cons_of_mem _ hv))
  have hp := (hM.2.2.1 r hk).1
  have er : tv ad (.ref r) = .ref (ad r) := tv_pos hp
  rcases hL.1 with hL1 | ⟨host, hL1⟩
  · exact run_fin hC.2.2.2.2.2.2.1 h0 ha hM hS hl hlo hrs (vx_runI (b := ad r) (As := As.map (tv ad)) (rest := rest.map (tv ad)) ⟨hC.1, hC.2.1, hC.2.2.1, hC.2.2.2.1, hC.2.2.2.2.1⟩ (hct D cA ad H.size) ⟨⟨rfl, rfl, hf.1, hf.2, wt_ws hC.2.2.2.2.1 hL.2.2.2.1, List.mem_cons_self, hC.2.2.2.2.1 _ hL.2.2.2.1, hC.2.2.2.2.1 _ hL.2.2.1, hL.2.2.2.2.2.1, hL.2.2.2.2.2.len, hC.2.2.2.2.1 _ hL1⟩, hL.2.2.2.2.1, hC.2.2.2.2.1 _ hL.2.1⟩ ⟨pm_blind, fun U hU hW => ⟨by rw [List.map_cons, er], pm_at hC.2.2.2.2.2.1 hC.2.2.2.2.2.2.1 hC.2.2.2.2.2.2.2.1 hC.2.2.2.2.2.2.2.2.1 hM hS hvs (by rw [kz_ag ha]; exact hC.2.2.2.2.2.2.2.2.2.2.2.2.2.2) hU hW⟩⟩ rfl (by rw [List.length_map]; exact hn) hl.1 (by rw [List.map_append, List.map_reverse, List.map_cons, er]) (lv_room (by rw [cat_tv]; exact hr)) hd hc) k
  · exact run_fin hC.2.2.2.2.2.2.1 h0 ha hM hS hl hlo hrs (vx_runIN (host := host) (b := ad r) (As := As.map (tv ad)) (rest := rest.map (tv ad)) ⟨hC.1, hC.2.1, hC.2.2.1, hC.2.2.2.1, hC.2.2.2.2.1⟩ (hct D cA ad H.size) ⟨⟨⟨rfl, rfl, hf.1, hf.2, wt_ws hC.2.2.2.2.1 hL.2.2.2.1, List.mem_cons_self⟩, hC.2.2.2.2.1 _ hL.2.2.2.1, hC.2.2.2.2.1 _ hL.2.2.1, hL.2.2.2.2.2.1, hL.2.2.2.2.2.len, hC.2.2.2.2.2.2.2.2.1.use hL1⟩, hL.2.2.2.2.1, hC.2.2.2.2.1 _ hL.2.1⟩ ⟨pm_blind, fun U hU hW => ⟨by rw [List.map_cons, er], pm_at hC.2.2.2.2.2.1 hC.2.2.2.2.2.2.1 hC.2.2.2.2.2.2.2.1 hC.2.2.2.2.2.2.2.2.1 hM hS hvs (by rw [kz_ag ha]; exact hC.2.2.2.2.2.2.2.2.2.2.2.2.2.2) hU hW⟩⟩ rfl (by rw [List.length_map]; exact hn) hl.1 (by rw [List.map_append, List.map_reverse, List.map_cons, er]) (lv_room (by rw [cat_tv]; exact hr)) hd hc) k
theorem x_callF {τ : Type} {inj : τ → Option Value} {o : Rs τ} {l1 : Launch} {x1 y1 : MethodName} {b1 : ByteArray} {n1 index count na r ci N : Nat} {CN : String} {T : u_T} {ty : Nat → FieldType} {ret1 : Option FieldType} {rm1 : Room} {As rest : List Value} (hC : CX C cc nL y rm) (hl1 : C.2.1 = l1) (hct : CT inj l1 y1 (.code y1 b1 n1 ret1) rm1 S (.ref r :: As) o) (hL : LKF y.cls index CN x1 y1 (.code y1 b1 n1 ret1) na) (hF : FC ci CN T N ty) (hk : gK S r = ci + 1) (hd : decode cc pc = .ok (.invokeinterface index count, 5)) (hn : As.length = na) (hst : st = As.reverse ++ .ref r :: rest) (hr : (rest.map fun v => v.category).sum ≤ 8) (hf : rm1.frames + 1 ≤ rm.frames ∧ 8 + (n1 + 11) + rm1.locals ≤ rm.locals) (hc : cs + rm1.cells ≤ rm.cells ∧ sl + rm1.slots ≤ rm.slots) (k : XK C nL Q (cs + rm1.cells) (sl + rm1.slots) inj o pc (pc + 5) lv rest) : XX C nL Q cs sl S pc lv st := by
  obtain ⟨p, l, e, R, s, m, args, below, meth, c, D, cA, A, n0, ad0, ex⟩ := C
  intro ad H locs ls h0 ha hM hS hl hlo hso
  subst hl1
  have hR : R = rm := hC.2.2.2.2.2.2.2.2.2.2.2.1
  subst hR
  subst hst
  have hvs : ∀ v ∈ Value.ref r :: As, vok (gN S) v := fun v hv => by
    rcases List.mem_cons.mp hv with h | h
    · exact hso v (List.mem_append_right _ (by rw [h]; exact List.mem_cons_self))
    · exact hso v (List.mem_append_left _ (List.mem_reverse.mpr h))
  have hrs : ∀ v ∈ rest, vok (gN S) v := fun v hv => hso v (List.mem_append_right _ (List.mem_cons_of_mem _ hv))
  have he := hM.obj hk hF.2.2.2.2.1
  have hp := (hM.pos hk (Nat.succ_le_succ (Nat.zero_le _))).1
  have er : tv ad (.ref r) = .ref (ad r) := tv_pos hp
  have hrec := va_recv hC.2.2.2.2.2.1 hM.1 hF.1 he
  have hNN := hC.2.2.2.2.2.2.2.2.1
  obtain ⟨q1, q2, q3, q4, q5, q6, q7, q8, q9, q10, q11⟩ := hL
  exact run_fin5 hC.2.2.2.2.2.2.1 h0 ha hM hS hl hlo hrs (vx_runF (b := ad r) (As := As.map (tv ad)) (rest := rest.map (tv ad)) (C := CN) (hC.2.2.2.2.2.1.1 ci _ hF.1).2 ⟨hC.1, hC.2.1, hC.2.2.1, hC.2.2.2.1, hC.2.2.2.2.1⟩ (hct D cA ad H.size) ⟨⟨rfl, rfl, hf.1, hf.2, wt_ws hC.2.2.2.2.1 q5, List.mem_cons_self⟩, hC.2.2.2.2.1 _ q1, hNN.use q7, hNN.use q8, hC.2.2.2.2.1 _ q2, hC.2.2.2.2.1 _ q3, hNN.use q9, hNN.use q10, hNN.use q11, hC.2.2.2.2.1 _ q4, hC.2.2.2.2.1 _ q5, q6.1, q6.len⟩ ⟨pm_blind, hrec, fun U hU hW => ⟨by rw [List.map_cons, er], pm_at hC.2.2.2.2.2.1 hC.2.2.2.2.2.2.1 hC.2.2.2.2.2.2.2.1 hC.2.2.2.2.2.2.2.2.1 hM hS hvs (by rw [kz_ag ha]; exact hC.2.2.2.2.2.2.2.2.2.2.2.2.2.2) hU hW⟩⟩ rfl (by rw [List.length_map]; exact hn) hl.1 (by rw [List.map_append, List.map_reverse, List.map_cons, er]) (lv_room (by rw [cat_tv]; exact hr)) hd hc) k
end ROWC
