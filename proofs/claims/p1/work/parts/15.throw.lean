section ROWT
variable {C : cT} {cc : ByteArray} {nL : Nat} {y : MethodName} {rm : Room} {Q : State → Prop} {cs sl : Nat} {S : mS} {pc : Nat} {lv : List (Nat × Value)} {st : List Value}

theorem x_throwS {τ : Type} {inj : τ → Option Value} {S0 : mS} {ret : Option FieldType} {o : Rs τ} {cls text : String} {names : List String} {ik is ic : Nat} (hC : CX C cc nL y rm) (hE : CE C S0 ret []) (hT : THS y.cls ik is ic cls text names) (d0 : decode cc pc = .ok (.new ik, 3)) (d3 : decode cc (pc + 3) = .ok (.dup, 1)) (d4 : decode cc (pc + 4) = .ok (.ldc is, 2)) (d6 : decode cc (pc + 6) = .ok (.invokespecial ic, 3)) (d9 : decode cc (pc + 9) = .ok (.athrow, 1)) (ho : o = (.inr cls, S)) (hf : names.length + 3 < rm.frames) (hlc : (st.map fun v => v.category).sum + (13 * (names.length + 1) + 43) ≤ rm.locals) (h1 : cs + 1 ≤ rm.cells) (h2 : sl + 6 ≤ rm.slots) : XX C nL (QQ C inj S0 o) cs sl S pc lv st := by
  obtain ⟨p, l, e, R, s, m, args, below, meth, c, D, cA, A, n0, ad0, ex⟩ := C
  intro ad H locs ls h0 ha hM hS hl hlo hso
  obtain ⟨e1, e2, e3, e4⟩ := hE
  have hR : R = rm := hC.2.2.2.2.2.2.2.2.2.2.2.1
  subst hR
  subst e1
  subst e2
  obtain ⟨t1, t2, t3, t4, t5, t6, t7⟩ := hT
  obtain ⟨sa, hsa⟩ := hC.2.2.2.2.2.2.2.2.1.2.2 _ t5
  exact vx_throwS hC.1 hC.2.1 hC.2.2.2.2.2.2.2.2.2.2.1 hC.2.2.2.1 t1 t2 (hC.2.2.2.2.1 _ t3) (hC.2.2.2.2.1 _ t4) hsa (fun w hw => (t6 w hw).elim (fun z => hC.2.2.2.2.1 w z) (fun z => hC.2.2.2.2.2.2.2.2.1.use z)) t7 hC.2.2.2.2.2.2.2.1.1 hC.2.2.2.2.2.2.2.1.2 hS (by rw [hC.2.2.1]; exact hl.1) d0 d3 d4 d6 d9 (by rw [e4]; exact fun x hx => nomatch hx) hf (by rw [cat_tv]; exact hlc) h1 h2 hC.2.2.2.2.2.2.2.2.2.1
    (fun t hal hz hk => ⟨⟨S, ad, ho, h0, ha, hM.1.kept (fun k x hx => hk x.1 (hM.1 k x hx).lt), hM.2⟩, Nat.le_trans hS.1 hz, fun q q1 q2 => (hk q (Nat.lt_of_lt_of_le q1 hS.1)).trans (hS.2.1 q q1 q2)⟩) hS.2.2 h1 h2
theorem x_throwSW {τ : Type} {inj : τ → Option Value} {S0 : mS} {ret : Option FieldType} {o : Rs τ} {cls text : String} {names : List String} {ik is ic : Nat} (hC : CX C cc nL y rm) (hE : CE C S0 ret []) (hT : THS y.cls ik is ic cls text names) (d0 : decode cc pc = .ok (.new ik, 3)) (d3 : decode cc (pc + 3) = .ok (.dup, 1)) (d4 : decode cc (pc + 4) = .ok (.ldc_w is, 3)) (d6 : decode cc (pc + 7) = .ok (.invokespecial ic, 3)) (d9 : decode cc (pc + 10) = .ok (.athrow, 1)) (ho : o = (.inr cls, S)) (hf : names.length + 3 < rm.frames) (hlc : (st.map fun v => v.category).sum + (13 * (names.length + 1) + 43) ≤ rm.locals) (h1 : cs + 1 ≤ rm.cells) (h2 : sl + 6 ≤ rm.slots) : XX C nL (QQ C inj S0 o) cs sl S pc lv st := by
  obtain ⟨p, l, e, R, s, m, args, below, meth, c, D, cA, A, n0, ad0, ex⟩ := C
  intro ad H locs ls h0 ha hM hS hl hlo hso
  obtain ⟨e1, e2, e3, e4⟩ := hE
  have hR : R = rm := hC.2.2.2.2.2.2.2.2.2.2.2.1
  subst hR
  subst e1
  subst e2
  obtain ⟨t1, t2, t3, t4, t5, t6, t7⟩ := hT
  obtain ⟨sa, hsa⟩ := hC.2.2.2.2.2.2.2.2.1.2.2 _ t5
  exact vx_throwSW hC.1 hC.2.1 hC.2.2.2.2.2.2.2.2.2.2.1 hC.2.2.2.1 t1 t2 (hC.2.2.2.2.1 _ t3) (hC.2.2.2.2.1 _ t4) hsa (fun w hw => (t6 w hw).elim (fun z => hC.2.2.2.2.1 w z) (fun z => hC.2.2.2.2.2.2.2.2.1.use z)) t7 hC.2.2.2.2.2.2.2.1.1 hC.2.2.2.2.2.2.2.1.2 hS (by rw [hC.2.2.1]; exact hl.1) d0 d3 d4 d6 d9 (by rw [e4]; exact fun x hx => nomatch hx) hf (by rw [cat_tv]; exact hlc) h1 h2 hC.2.2.2.2.2.2.2.2.2.1
    (fun t hal hz hk => ⟨⟨S, ad, ho, h0, ha, hM.1.kept (fun k x hx => hk x.1 (hM.1 k x hx).lt), hM.2⟩, Nat.le_trans hS.1 hz, fun q q1 q2 => (hk q (Nat.lt_of_lt_of_le q1 hS.1)).trans (hS.2.1 q q1 q2)⟩) hS.2.2 h1 h2
theorem x_throwNS {τ : Type} {inj : τ → Option Value} {S0 : mS} {ret : Option FieldType} {o : Rs τ} {cls text : String} {ik is ic ix : Nat} {rx : ByteArray} (hC : CX C cc nL y rm) (hE : CE C S0 ret []) (hT : THN y.cls ik is ic ix cls text rx) (d0 : decode cc pc = .ok (.new ik, 3)) (d3 : decode cc (pc + 3) = .ok (.dup, 1)) (d4 : decode cc (pc + 4) = .ok (.ldc is, 2)) (d6 : decode cc (pc + 6) = .ok (.invokespecial ic, 3)) (d9 : decode cc (pc + 9) = .ok (.athrow, 1)) (ho : o = (.inr cls, S)) (hf : 2 + 3 < rm.frames) (hlc : (st.map fun v => v.category).sum + (13 * (2 + 1) + 43) ≤ rm.locals) (h1 : cs + 1 ≤ rm.cells) (h2 : sl + 6 ≤ rm.slots) : XX C nL (QQ C inj S0 o) cs sl S pc lv st := by
  obtain ⟨p, l, e, R, s, m, args, below, meth, c, D, cA, A, n0, ad0, ex⟩ := C
  intro ad H locs ls h0 ha hM hS hl hlo hso
  obtain ⟨e1, e2, e3, e4⟩ := hE
  have hR : R = rm := hC.2.2.2.2.2.2.2.2.2.2.2.1
  subst hR
  subst e1
  subst e2
  obtain ⟨t1, t3, t4, t5, t6, t7, x0, x1, x2, x5⟩ := hT
  obtain ⟨sa, hsa⟩ := hC.2.2.2.2.2.2.2.2.1.2.2 _ t5
  exact ns_throwS hC.1 hC.2.1 hC.2.2.2.2.2.2.2.2.2.2.1 x0 x1 x2 x5 hC.2.2.2.1 t1 (hC.2.2.2.2.1 _ t3) (hC.2.2.2.2.1 _ t4) hsa (fun w hw => (t6 w hw).elim (fun z => hC.2.2.2.2.1 w z) (fun z => hC.2.2.2.2.2.2.2.2.1.use z)) t7 hC.2.2.2.2.2.2.2.1.1 hC.2.2.2.2.2.2.2.1.2 hS (by rw [hC.2.2.1]; exact hl.1) d0 d3 d4 d6 d9 (by rw [e4]; exact fun x hx => nomatch hx) hf (by rw [cat_tv]; exact hlc) h1 h2 hC.2.2.2.2.2.2.2.2.2.1
    (fun t hal hz hk => ⟨⟨S, ad, ho, h0, ha, hM.1.kept (fun k x hx => hk x.1 (hM.1 k x hx).lt), hM.2⟩, Nat.le_trans hS.1 hz, fun q q1 q2 => (hk q (Nat.lt_of_lt_of_le q1 hS.1)).trans (hS.2.1 q q1 q2)⟩) hS.2.2 h1 h2
theorem x_throwNSW {τ : Type} {inj : τ → Option Value} {S0 : mS} {ret : Option FieldType} {o : Rs τ} {cls text : String} {ik is ic ix : Nat} {rx : ByteArray} (hC : CX C cc nL y rm) (hE : CE C S0 ret []) (hT : THN y.cls ik is ic ix cls text rx) (d0 : decode cc pc = .ok (.new ik, 3)) (d3 : decode cc (pc + 3) = .ok (.dup, 1)) (d4 : decode cc (pc + 4) = .ok (.ldc_w is, 3)) (d6 : decode cc (pc + 7) = .ok (.invokespecial ic, 3)) (d9 : decode cc (pc + 10) = .ok (.athrow, 1)) (ho : o = (.inr cls, S)) (hf : 2 + 3 < rm.frames) (hlc : (st.map fun v => v.category).sum + (13 * (2 + 1) + 43) ≤ rm.locals) (h1 : cs + 1 ≤ rm.cells) (h2 : sl + 6 ≤ rm.slots) : XX C nL (QQ C inj S0 o) cs sl S pc lv st := by
  obtain ⟨p, l, e, R, s, m, args, below, meth, c, D, cA, A, n0, ad0, ex⟩ := C
  intro ad H locs ls h0 ha hM hS hl hlo hso
  obtain ⟨e1, e2, e3, e4⟩ := hE
  have hR : R = rm := hC.2.2.2.2.2.2.2.2.2.2.2.1
  subst hR
  subst e1
  subst e2
  obtain ⟨t1, t3, t4, t5, t6, t7, x0, x1, x2, x5⟩ := hT
  obtain ⟨sa, hsa⟩ := hC.2.2.2.2.2.2.2.2.1.2.2 _ t5
  exact ns_throwSW hC.1 hC.2.1 hC.2.2.2.2.2.2.2.2.2.2.1 x0 x1 x2 x5 hC.2.2.2.1 t1 (hC.2.2.2.2.1 _ t3) (hC.2.2.2.2.1 _ t4) hsa (fun w hw => (t6 w hw).elim (fun z => hC.2.2.2.2.1 w z) (fun z => hC.2.2.2.2.2.2.2.2.1.use z)) t7 hC.2.2.2.2.2.2.2.1.1 hC.2.2.2.2.2.2.2.1.2 hS (by rw [hC.2.2.1]; exact hl.1) d0 d3 d4 d6 d9 (by rw [e4]; exact fun x hx => nomatch hx) hf (by rw [cat_tv]; exact hlc) h1 h2 hC.2.2.2.2.2.2.2.2.2.1
    (fun t hal hz hk => ⟨⟨S, ad, ho, h0, ha, hM.1.kept (fun k x hx => hk x.1 (hM.1 k x hx).lt), hM.2⟩, Nat.le_trans hS.1 hz, fun q q1 q2 => (hk q (Nat.lt_of_lt_of_le q1 hS.1)).trans (hS.2.1 q q1 q2)⟩) hS.2.2 h1 h2
theorem xt_catch_n {S0 : mS} {o : Rs Int32} {E name : String} {hh : List (Nat × Nat × Nat × Nat)} {i hp : Nat} {u : Fin 4} {n : Int} {v : Int32} (hC : CX C cc nL y rm) (hE : CE C S0 (some .int) (tableOf hh)) (pre : List ExceptionTableEntry) (x : ExceptionTableEntry) (suf : List ExceptionTableEntry) (hsplit : tableOf hh = pre ++ x :: suf) (hpass : ∀ z ∈ pre, covers z pc = false ∨ (z.catchType ≠ 0 ∧ ∃ nm : String, Cond.classLink y.cls z.catchType nm ∈ wt ∧ (E, nm) ∈ ncs)) (hx : covers x pc = true) (hne : x.catchType ≠ 0) (hlink : Cond.classLink y.cls x.catchType name ∈ wt) (hcast : Cond.castable E name ∈ wn) (hhp : x.handlerPc = hp)
    (d1 : decode cc hp = .ok (.astore_n u, 1)) (hi : (u : Nat) = i) (hn : i < nL) (d2 : decode cc (hp + 1) = .ok (.iconst n, 1)) (hv : Int32.ofInt n = v) (d3 : decode cc (hp + 1 + 1) = .ok (.ireturn, 1)) (ho : o = (.inl v, S)) (h1 : cs ≤ rm.cells) (h2 : sl ≤ rm.slots) : XT C nL (QQ C (fun r : Int32 => some (.int r)) S0 o) cs sl S pc lv E := by
  obtain ⟨p, l, e, R, s, m, args, below, meth, c, D, cA, A, n0, ad0, ex⟩ := C
  intro ad H locs ls rest q cel h0 ha hM hS hl hlo hcell hvm hcl
  obtain ⟨e1, e2, e3, e4⟩ := hE
  have hR : R = rm := hC.2.2.2.2.2.2.2.2.2.2.2.1
  subst hR
  subst e1
  subst e2
  subst hhp
  refine vx_catch hC.2.2.2.1 pre x suf (by rw [e4]; exact hsplit) (fun z hz => (hpass z hz).imp id (fun ⟨z0, nm, z1, z2⟩ => ⟨z0, nm, hC.2.2.2.2.1 _ z1, hC.2.2.2.2.2.2.2.2.1.2.1 _ z2⟩)) hx hne (hC.2.2.2.2.1 _ hlink) (hC.2.2.2.2.2.2.2.2.1.use hcast) hcell hvm hcl ?_
  refine lv_astore_n hC.1 hC.2.1 d1 hi hl hn rfl (fun ls' hl' => ?_)
  refine lv_iconst hC.1 hC.2.1 d2 hv ?_
  exact W.widen h1 h2 (vx_ret (W.iret hC.1 hC.2.1 e3 (fun t ht hW => ⟨⟨v, S, ad, ho, rfl, fun v9 h9 => (by cases h9; trivial), h0, ha, by rw [ht]; exact hM⟩, hS.F ht⟩) hS.2.2 d3 hC.2.2.2.2.2.2.2.2.2.1))
theorem xt_catch {S0 : mS} {o : Rs Int32} {E name : String} {hh : List (Nat × Nat × Nat × Nat)} {i hp : Nat} {n : Int} {v : Int32} (hC : CX C cc nL y rm) (hE : CE C S0 (some .int) (tableOf hh)) (pre : List ExceptionTableEntry) (x : ExceptionTableEntry) (suf : List ExceptionTableEntry) (hsplit : tableOf hh = pre ++ x :: suf) (hpass : ∀ z ∈ pre, covers z pc = false ∨ (z.catchType ≠ 0 ∧ ∃ nm : String, Cond.classLink y.cls z.catchType nm ∈ wt ∧ (E, nm) ∈ ncs)) (hx : covers x pc = true) (hne : x.catchType ≠ 0) (hlink : Cond.classLink y.cls x.catchType name ∈ wt) (hcast : Cond.castable E name ∈ wn) (hhp : x.handlerPc = hp)
    (d1 : decode cc hp = .ok (.astore i, 2)) (hn : i < nL) (d2 : decode cc (hp + 2) = .ok (.iconst n, 1)) (hv : Int32.ofInt n = v) (d3 : decode cc (hp + 2 + 1) = .ok (.ireturn, 1)) (ho : o = (.inl v, S)) (h1 : cs ≤ rm.cells) (h2 : sl ≤ rm.slots) : XT C nL (QQ C (fun r : Int32 => some (.int r)) S0 o) cs sl S pc lv E := by
  obtain ⟨p, l, e, R, s, m, args, below, meth, c, D, cA, A, n0, ad0, ex⟩ := C
  intro ad H locs ls rest q cel h0 ha hM hS hl hlo hcell hvm hcl
  obtain ⟨e1, e2, e3, e4⟩ := hE
  have hR : R = rm := hC.2.2.2.2.2.2.2.2.2.2.2.1
  subst hR
  subst e1
  subst e2
  subst hhp
  refine vx_catch hC.2.2.2.1 pre x suf (by rw [e4]; exact hsplit) (fun z hz => (hpass z hz).imp id (fun ⟨z0, nm, z1, z2⟩ => ⟨z0, nm, hC.2.2.2.2.1 _ z1, hC.2.2.2.2.2.2.2.2.1.2.1 _ z2⟩)) hx hne (hC.2.2.2.2.1 _ hlink) (hC.2.2.2.2.2.2.2.2.1.use hcast) hcell hvm hcl ?_
  refine lv_astore hC.1 hC.2.1 d1 hl hn rfl (fun ls' hl' => ?_)
  refine lv_iconst hC.1 hC.2.1 d2 hv ?_
  exact W.widen h1 h2 (vx_ret (W.iret hC.1 hC.2.1 e3 (fun t ht hW => ⟨⟨v, S, ad, ho, rfl, fun v9 h9 => (by cases h9; trivial), h0, ha, by rw [ht]; exact hM⟩, hS.F ht⟩) hS.2.2 d3 hC.2.2.2.2.2.2.2.2.2.1))
theorem x_tableIn (hC : CX C cc nL y rm) {dflt lo hi : Int} {offs : Array Int} {len : Nat} {x : Int32} {off : Int} (tgt : Nat) (hd : decode cc pc = .ok (.tableswitch dflt lo hi offs, len)) (h1 : ¬ x.toInt < lo) (h2 : ¬ hi < x.toInt) (ho : offs[(x.toInt - lo).toNat]? = some off) (ht : (pc : Int) + off = (tgt : Int)) (k : XX C nL Q cs sl S tgt lv st) : XX C nL Q cs sl S pc lv (.int x :: st) := by
  obtain ⟨p, l, e, R, s, m, args, below, meth, c, D, cA, A, n0, ad0, ex⟩ := C
  intro ad H locs ls h0 ha hM hS hl hlo hso
  exact lv_tableIn hC.1 hC.2.1 hd h1 h2 ho ht (k ad H locs ls h0 ha hM hS hl hlo (sok_t hso))
theorem x_tableOut (hC : CX C cc nL y rm) {dflt lo hi : Int} {offs : Array Int} {len : Nat} {x : Int32} (tgt : Nat) (hd : decode cc pc = .ok (.tableswitch dflt lo hi offs, len)) (h : x.toInt < lo ∨ hi < x.toInt) (ht : (pc : Int) + dflt = (tgt : Int)) (k : XX C nL Q cs sl S tgt lv st) : XX C nL Q cs sl S pc lv (.int x :: st) := by
  obtain ⟨p, l, e, R, s, m, args, below, meth, c, D, cA, A, n0, ad0, ex⟩ := C
  intro ad H locs ls h0 ha hM hS hl hlo hso
  exact lv_tableOut hC.1 hC.2.1 hd h ht (k ad H locs ls h0 ha hM hS hl hlo (sok_t hso))
theorem x_lookup (hC : CX C cc nL y rm) {dflt : Int} {ps : Array (Int × Int)} {len : Nat} {x : Int32} {off : Int} (tgt : Nat) (hd : decode cc pc = .ok (.lookupswitch dflt ps, len)) (hp : (ps.toList.zip (ps.toList.drop 1)).all (fun (a, next) => a.1 < next.1) = true) (ho : Op.lookupswitch.offset ps.toList dflt x.toInt = off) (ht : (pc : Int) + off = (tgt : Int)) (k : XX C nL Q cs sl S tgt lv st) : XX C nL Q cs sl S pc lv (.int x :: st) := by
  obtain ⟨p, l, e, R, s, m, args, below, meth, c, D, cA, A, n0, ad0, ex⟩ := C
  intro ad H locs ls h0 ha hM hS hl hlo hso
  exact lv_lookup hC.1 hC.2.1 hd hp ho ht (k ad H locs ls h0 ha hM hS hl hlo (sok_t hso))
theorem x_ldc (hC : CX C cc nL y rm) {index : Nat} {v : Int32} (hL : Cond.constant y.cls index v ∈ wt) (hd : decode cc pc = .ok (.ldc index, 2)) (k : XX C nL Q cs sl S (pc + 2) lv (.int v :: st)) : XX C nL Q cs sl S pc lv st := by
  obtain ⟨p, l, e, R, s, m, args, below, meth, c, D, cA, A, n0, ad0, ex⟩ := C
  intro ad H locs ls h0 ha hM hS hl hlo hso
  exact lv_ldc hC.1 hC.2.1 hC.2.2.2.1 (hC.2.2.2.2.1 _ hL) hd (k ad H locs ls h0 ha hM hS hl hlo (sok_c trivial hso))
theorem x_ldcw (hC : CX C cc nL y rm) {index : Nat} {v : Int32} (hL : Cond.constant y.cls index v ∈ wt) (hd : decode cc pc = .ok (.ldc_w index, 3)) (k : XX C nL Q cs sl S (pc + 3) lv (.int v :: st)) : XX C nL Q cs sl S pc lv st := by
  obtain ⟨p, l, e, R, s, m, args, below, meth, c, D, cA, A, n0, ad0, ex⟩ := C
  intro ad H locs ls h0 ha hM hS hl hlo hso
  exact lv_ldcw hC.1 hC.2.1 hC.2.2.2.1 (hC.2.2.2.2.1 _ hL) hd (k ad H locs ls h0 ha hM hS hl hlo (sok_c trivial hso))
theorem x_ldc2 (hC : CX C cc nL y rm) {index : Nat} {v : Int64} (hL : Cond.constantLong y.cls index v ∈ wt) (hd : decode cc pc = .ok (.ldc2_w index, 3)) (k : XX C nL Q cs sl S (pc + 3) lv (.long v :: st)) : XX C nL Q cs sl S pc lv st := by
  obtain ⟨p, l, e, R, s, m, args, below, meth, c, D, cA, A, n0, ad0, ex⟩ := C
  intro ad H locs ls h0 ha hM hS hl hlo hso
  exact lv_ldc2 hC.1 hC.2.1 hC.2.2.2.1 (hC.2.2.2.2.1 _ hL) hd (k ad H locs ls h0 ha hM hS hl hlo (sok_c trivial hso))
theorem tv_K {ad : Nat → Nat} {i : Nat} : tv ad (.ref (KB + i)) = .ref (kz ad i) := rv_pos (by unfold KB; omega)
theorem x_ldcK (hC : CX C cc nL y rm) {index i : Nat} {tx : String} (hL : (y.cls, index, tx, i) ∈ ksts) (hd : decode cc pc = .ok (.ldc index, 2)) (k : XX C nL Q cs sl S (pc + 2) lv (.ref (KB + i) :: st)) : XX C nL Q cs sl S pc lv st := by
  obtain ⟨p, l, e, R, s, m, args, below, meth, c, D, cA, A, n0, ad0, ex⟩ := C
  intro ad H locs ls h0 ha hM hS hl hlo hso
  have hk := k ad H locs ls h0 ha hM hS hl hlo (sok_c (Or.inr (Nat.le_add_right _ _)) hso)
  rw [List.map_cons, tv_K, kz_ag ha] at hk
  exact va_ldcS hC.1 hC.2.1 hC.2.2.2.1 (hC.2.2.2.2.2.2.2.2.2.2.2.2.2.2.2.1 _ hL) hd hk
theorem x_getsK (hC : CX C cc nL y rm) {index : Nat} (hL : Cond.fieldLink y.cls index "java/util/ArrayList" "DEFAULTCAPACITY_EMPTY_ELEMENTDATA" "[Ljava/lang/Object;" ∈ wt) (hd : decode cc pc = .ok (.getstatic index, 3)) (k : XX C nL Q cs sl S (pc + 3) lv (.ref (KB + 20) :: st)) : XX C nL Q cs sl S pc lv st := by
  obtain ⟨p, l, e, R, s, m, args, below, meth, c, D, cA, A, n0, ad0, ex⟩ := C
  intro ad H locs ls h0 ha hM hS hl hlo hso
  have hk := k ad H locs ls h0 ha hM hS hl hlo (sok_c (Or.inr (Nat.le_add_right _ _)) hso)
  rw [List.map_cons, tv_K, kz_ag ha] at hk
  exact va_gets hC.1 hC.2.1 hC.2.2.2.2.2.2.2.2.2.2.2.2.2.2.2.2.1 hS hC.2.2.2.1 (hC.2.2.2.2.1 _ hL) (fun _ h => h) hd hk
theorem x_alenK (hC : CX C cc nL y rm) (hd : decode cc pc = .ok (.arraylength, 1)) (k : XX C nL Q cs sl S (pc + 1) lv (.int 0 :: st)) : XX C nL Q cs sl S pc lv (.ref (KB + 20) :: st) := by
  obtain ⟨p, l, e, R, s, m, args, below, meth, c, D, cA, A, n0, ad0, ex⟩ := C
  intro ad H locs ls h0 ha hM hS hl hlo hso
  have hk := k ad H locs ls h0 ha hM hS hl hlo (sok_c trivial (sok_t hso))
  show W p l e R s m args below meth c H locs cs sl Q (F0 m pc ls (tv ad (.ref (KB + 20)) :: st.map (tv ad)))
  rw [tv_K, kz_ag ha]
  exact va_tlen hC.1 hC.2.1 hC.2.2.2.2.2.2.2.2.2.2.2.2.2.2.2.2.2.1 hS rfl hd hk
theorem x_alenKe (hC : CX C cc nL y rm) {r : Nat} (hr : r = KB + 20) (hd : decode cc pc = .ok (.arraylength, 1)) (k : XX C nL Q cs sl S (pc + 1) lv (.int 0 :: st)) : XX C nL Q cs sl S pc lv (.ref r :: st) := by
  subst hr
  exact x_alenK hC hd k
theorem x_mmin (hC : CX C cc nL y rm) {a b : Int32} {index : Nat} (hL : Cond.methodLink y.cls index Lib.Math.min.name ∈ wt) (hs : Cond.static Lib.Math.min.name ∈ wt) (hi : Cond.initialized "java/lang/Math" ∈ wt) (hcd : Cond.code Lib.Math.min.name Lib.Math.min.code 2 (some .int) ∈ wt) (hd : decode cc pc = .ok (.invokestatic index, 3)) (hf : 1 ≤ rm.frames) (hlc : (st.map fun v => v.category).sum + 13 ≤ rm.locals) (h1 : cs ≤ rm.cells) (h2 : sl ≤ rm.slots) (k : ∀ vv : Int32, vv = (if b < a then b else a) → XX C nL Q cs sl S (pc + 3) lv (.int vv :: st)) : XX C nL Q cs sl S pc lv (.int b :: .int a :: st) := by
  obtain ⟨p, l, e, R, s, m, args, below, meth, c, D, cA, A, n0, ad0, ex⟩ := C
  intro ad H locs ls h0 ha hM hS hl hlo hso
  have hR : R = rm := hC.2.2.2.2.2.2.2.2.2.2.2.1
  subst hR
  exact va_mmin hC.1 hC.2.1 (by rw [hC.2.2.1]; exact hl.1.symm) hC.2.2.2.1 (hC.2.2.2.2.1 _ hL) (hC.2.2.2.2.1 _ hs) (hC.2.2.2.2.1 _ hi) (hC.2.2.2.2.1 _ hcd) hf (by rw [cat_tv]; exact hlc) h1 h2 hd (k _ rfl ad H locs ls h0 ha hM hS hl hlo (sok_c trivial (sok_t (sok_t hso))))
theorem x_mmax (hC : CX C cc nL y rm) {a b : Int32} {index : Nat} (hL : Cond.methodLink y.cls index Lib.Math.max.name ∈ wt) (hs : Cond.static Lib.Math.max.name ∈ wt) (hi : Cond.initialized "java/lang/Math" ∈ wt) (hcd : Cond.code Lib.Math.max.name Lib.Math.max.code 2 (some .int) ∈ wt) (hd : decode cc pc = .ok (.invokestatic index, 3)) (hf : 1 ≤ rm.frames) (hlc : (st.map fun v => v.category).sum + 13 ≤ rm.locals) (h1 : cs ≤ rm.cells) (h2 : sl ≤ rm.slots) (k : ∀ vv : Int32, vv = (if a < b then b else a) → XX C nL Q cs sl S (pc + 3) lv (.int vv :: st)) : XX C nL Q cs sl S pc lv (.int b :: .int a :: st) := by
  obtain ⟨p, l, e, R, s, m, args, below, meth, c, D, cA, A, n0, ad0, ex⟩ := C
  intro ad H locs ls h0 ha hM hS hl hlo hso
  have hR : R = rm := hC.2.2.2.2.2.2.2.2.2.2.2.1
  subst hR
  exact va_mmax hC.1 hC.2.1 (by rw [hC.2.2.1]; exact hl.1.symm) hC.2.2.2.1 (hC.2.2.2.2.1 _ hL) (hC.2.2.2.2.1 _ hs) (hC.2.2.2.2.1 _ hi) (hC.2.2.2.2.1 _ hcd) hf (by rw [cat_tv]; exact hlc) h1 h2 hd (k _ rfl ad H locs ls h0 ha hM hS hl hlo (sok_c trivial (sok_t (sok_t hso))))
theorem x_mabs (hC : CX C cc nL y rm) {a : Int32} {index : Nat} (hL : Cond.methodLink y.cls index Lib.Math.abs.name ∈ wt) (hs : Cond.static Lib.Math.abs.name ∈ wt) (hi : Cond.initialized "java/lang/Math" ∈ wt) (hcd : Cond.code Lib.Math.abs.name Lib.Math.abs.code 1 (some .int) ∈ wt) (hd : decode cc pc = .ok (.invokestatic index, 3)) (hf : 1 ≤ rm.frames) (hlc : (st.map fun v => v.category).sum + 13 ≤ rm.locals) (h1 : cs ≤ rm.cells) (h2 : sl ≤ rm.slots) (k : ∀ vv : Int32, vv = (if 0 ≤ a then a else 0 - a) → XX C nL Q cs sl S (pc + 3) lv (.int vv :: st)) : XX C nL Q cs sl S pc lv (.int a :: st) := by
  obtain ⟨p, l, e, R, s, m, args, below, meth, c, D, cA, A, n0, ad0, ex⟩ := C
  intro ad H locs ls h0 ha hM hS hl hlo hso
  have hR : R = rm := hC.2.2.2.2.2.2.2.2.2.2.2.1
  subst hR
  exact va_mabs hC.1 hC.2.1 (by rw [hC.2.2.1]; exact hl.1.symm) hC.2.2.2.1 (hC.2.2.2.2.1 _ hL) (hC.2.2.2.2.1 _ hs) (hC.2.2.2.2.1 _ hi) (hC.2.2.2.2.1 _ hcd) hf (by rw [cat_tv]; exact hlc) h1 h2 hd (k _ rfl ad H locs ls h0 ha hM hS hl hlo (sok_c trivial (sok_t hso)))
theorem x_mmin_long (hC : CX C cc nL y rm) {a b : Int64} {index : Nat} (hL : Cond.methodLink y.cls index Lib.MathLoose.min_long.x ∈ wt) (hs : Cond.static Lib.MathLoose.min_long.x ∈ wt) (hi : Cond.initialized "java/lang/Math" ∈ wt) (hcd : Cond.code Lib.MathLoose.min_long.x Lib.MathLoose.min_long.code 4 (some .long) ∈ wt) (hd : decode cc pc = .ok (.invokestatic index, 3)) (hf : 1 ≤ rm.frames) (hlc : (st.map fun v => v.category).sum + 25 ≤ rm.locals) (h1 : cs ≤ rm.cells) (h2 : sl ≤ rm.slots) (k : ∀ vv : Int64, vv = (if b < a then b else a) → XX C nL Q cs sl S (pc + 3) lv (.long vv :: st)) : XX C nL Q cs sl S pc lv (.long b :: .long a :: st) := by
  obtain ⟨p, l, e, R, s, m, args, below, meth, c, D, cA, A, n0, ad0, ex⟩ := C
  intro ad H locs ls h0 ha hM hS hl hlo hso
  have hR : R = rm := hC.2.2.2.2.2.2.2.2.2.2.2.1
  subst hR
  exact va_mmin_long hC.1 hC.2.1 (by rw [hC.2.2.1]; exact hl.1.symm) hC.2.2.2.1 (hC.2.2.2.2.1 _ hL) (hC.2.2.2.2.1 _ hs) (hC.2.2.2.2.1 _ hi) (hC.2.2.2.2.1 _ hcd) hf (by rw [cat_tv]; omega) h1 h2 hd (k _ rfl ad H locs ls h0 ha hM hS hl hlo (sok_c trivial (sok_t (sok_t hso))))
theorem x_mmax_long (hC : CX C cc nL y rm) {a b : Int64} {index : Nat} (hL : Cond.methodLink y.cls index Lib.MathLoose.max_long.x ∈ wt) (hs : Cond.static Lib.MathLoose.max_long.x ∈ wt) (hi : Cond.initialized "java/lang/Math" ∈ wt) (hcd : Cond.code Lib.MathLoose.max_long.x Lib.MathLoose.max_long.code 4 (some .long) ∈ wt) (hd : decode cc pc = .ok (.invokestatic index, 3)) (hf : 1 ≤ rm.frames) (hlc : (st.map fun v => v.category).sum + 25 ≤ rm.locals) (h1 : cs ≤ rm.cells) (h2 : sl ≤ rm.slots) (k : ∀ vv : Int64, vv = (if b < a then a else b) → XX C nL Q cs sl S (pc + 3) lv (.long vv :: st)) : XX C nL Q cs sl S pc lv (.long b :: .long a :: st) := by
  obtain ⟨p, l, e, R, s, m, args, below, meth, c, D, cA, A, n0, ad0, ex⟩ := C
  intro ad H locs ls h0 ha hM hS hl hlo hso
  have hR : R = rm := hC.2.2.2.2.2.2.2.2.2.2.2.1
  subst hR
  exact va_mmax_long hC.1 hC.2.1 (by rw [hC.2.2.1]; exact hl.1.symm) hC.2.2.2.1 (hC.2.2.2.2.1 _ hL) (hC.2.2.2.2.1 _ hs) (hC.2.2.2.2.1 _ hi) (hC.2.2.2.2.1 _ hcd) hf (by rw [cat_tv]; omega) h1 h2 hd (k _ rfl ad H locs ls h0 ha hM hS hl hlo (sok_c trivial (sok_t (sok_t hso))))
end ROWT
