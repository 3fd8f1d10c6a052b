section STRP
/-! ===== BEGIN a method of a class above, found by the receiver, that may throw (follows va_callVU, va_runU of this kit) ===== -/
section
variable {p : Program} {l : Launch} {e : Env} {R : Room} {s : State} {m : MethodId} {args : Array Value} {below : List Frame} {meth : Method} {c : Code} {H : Heap} {locs : List Loc} {cells slots : Nat}
theorem vx_callVU {T : State} {locs : List Loc} {cells slots : Nat} (X : Stand p l e R s m args below meth c T locs cells slots) (hexec : p.tables.exec = Jvm.exec) {own C owner : String} {index : Nat} {x y : MethodName} {bytes : ByteArray} {maxL : Nat} {ret : Option FieldType}
    (hown : s.vm.findClass own = some m.cls) (hlink : (Cond.methodLink own index x).before args s = true) (hsame : (Cond.sameMethod x.cls owner x.name x.desc).before args s = true)
    (hd0 : va_Decl s ⟨owner, x.name, x.desc⟩) (howner : owner ≠ "java/lang/invoke/MethodHandle" ∧ owner ≠ "java/lang/invoke/VarHandle")
    (hsel : (Cond.selects C x y).before args s = true) (hinst : (Cond.instanceMethod y).before args s = true) (hcode : (Cond.code y bytes maxL ret).before args s = true)
    {W : Nat} {Pre : Pt → Array Value → Prop} {Post : Pt → Array Value → Option Value → Pt → Prop} {PostX : Pt → Array Value → Addr → Pt → Prop} (hK : vx_Back l R p e below s args y 3 W Pre Post PostX)
    {b : Addr} {cellB : Cell} (hcell : T.heap[b]? = some cellB) (hobj : cellB.vm.isStatics = false) (hcls : s.vm.findClass C = some cellB.cls)
    {g : JFrame} (hg : g.method = m) (hsize : g.locals.size = c.maxLocals) {argsL rest : List Value} (hlen : ∀ sig, parseMethodDescriptor x.desc = some sig → argsL.length = sig.parameters.length)
    (hstack : g.stack = argsL.reverse ++ .ref b :: rest) (hW : 2 * g.monitorRoom + (rest.map fun v => v.category).sum ≤ W) (hdg : decode c.code g.pc = .ok (.invokevirtual index, 3))
    (hpre : ∀ vm₁, s.WarmedH vm₁ → Pre ⟨T.setVm vm₁, locs, cells, slots⟩ (Value.ref b :: argsL).toArray) :
    (∃ (v : Option Value) (vm₁ : Vm) (B : Pt), s.WarmedH vm₁ ∧ Stand p l e R s m args below meth c B.U B.locs B.cells B.slots ∧ Post ⟨T.setVm vm₁, locs, cells, slots⟩ (Value.ref b :: argsL).toArray v B ∧
      ∀ target, Steps p.tables e below (B.U.setTop { g with pc := g.pc + 3, stack := v.toList ++ rest }) target → Steps p.tables e below (T.setTop g) target) ∨
    (∃ (q : Addr) (vm₁ : Vm) (B : Pt), s.WarmedH vm₁ ∧ Stand p l e R s m args below meth c B.U B.locs B.cells B.slots ∧ PostX ⟨T.setVm vm₁, locs, cells, slots⟩ (Value.ref b :: argsL).toArray q B ∧
      Steps p.tables e below (T.setTop g) ((B.U.setTop { g with stack := rest }).pushFrame (.throwing q))) := by
  obtain ⟨r0, r, hn, hrm, hstR, hsigR⟩ := hd0
  obtain ⟨cn, ck, r1, hcn, hck, hni, hf, hn1⟩ := Cond.sameMethod_found hsame
  cases hn.symm.trans hn1
  obtain ⟨mk, methM, hnamed, hmethM, -, habM⟩ := Cond.instanceMethod_spec hinst
  obtain ⟨c2, r2, m2, q1, q2, q3, q4, kP, hkP, hkPi⟩ := Cond.selects_spec hsel
  cases hcls.symm.trans q1
  cases hf.symm.trans q2
  cases hnamed.symm.trans q3
  have hselP : selectMethod e.platform s.vm cellB.cls r0 = .method mk := by rw [Launch.admits_selectMethod X.admits]; exact q4
  obtain ⟨vm₁, X₁, hstep₁⟩ := X.invokevirtualUp hexec hown hlink hsame howner hn hrm hstR (a := b) (cell := cellB) hcell
    (fun z h => by rw [h] at hobj; cases hobj) hselP hmethM habM hkP hkPi (g := g) hg (argsL := argsL) (rest := rest) (hlen _ hsigR) hstack hdg
  rcases hK m meth c ⟨T.setVm vm₁, locs, cells, slots⟩ { g with stack := rest } (.invokevirtual index) mk (Value.ref b :: argsL).toArray X₁ hg hsize hdg hW (X₁.named hnamed) (hpre vm₁ X₁.warmed) with ⟨v, B, X', hpost, hsteps⟩ | ⟨q, B, X', hpost, hsteps⟩
  · exact Or.inl ⟨v, vm₁, B, X₁.warmed, X', hpost, fun target h => hstep₁ _ fun acts => by rw [doInvoke_state]; exact hsteps.trans h⟩
  · exact Or.inr ⟨q, vm₁, B, X₁.warmed, X', hpost, hstep₁ _ fun acts => by rw [doInvoke_state]; exact hsteps⟩
theorem vx_runU {x y : MethodName} {bytes cc : ByteArray} {maxL nL mc ms n index : Nat} {ret : Option FieldType} {ws : List Cond} {rm : Room} {Pc : Array Value → State → Prop} {Qc : Array Value → State → Outcome → State → Prop} {XC : String → State → State → Prop} {free : Addr → Prop} {Ts : List Cond} {own C owner : String} {b : Addr} {As rest : List Value} {g : JFrame}
    (S : CallFix p m c cc nL s args Ts own) (hM : vx_Met l y ws rm Pc Qc XC mc ms free) (cw : va_CU R s args own C owner index x y bytes maxL ret ws rm mc ms n) (hp : PreV s H C b Pc As)
    (hg : g.method = m) (hn : As.length = n) (hsize : g.locals.size = nL) (hstack : g.stack = As.reverse ++ .ref b :: rest) (hW : 2 * g.monitorRoom + (rest.map fun v => v.category).sum ≤ 8) (hdg : decode cc g.pc = .ok (.invokevirtual index, 3)) (hf : cells + mc ≤ R.cells ∧ slots + ms ≤ R.slots) :
    vx_Run p l e R s m args below meth c H locs cells slots mc ms g rest (Qc (Value.ref b :: As).toArray) XC free := by
  obtain ⟨hrc, hrs, hfr, hlo, hws, hcw⟩ := cw.back
  have hini := cw.init
  have hK : vx_Back l R p e below s args y 3 8 (PreOf R mc ms Pc) (PostOf Qc mc ms free) (vx_Post XC mc ms free) := vx_back (bytes := bytes) (maxL := maxL) (ret := ret) hM hp.1 hrc hrs hfr hlo hws hcw (fun a' U hW => word_at hW (Or.inl (by first | rfl | simp [Cond.onTables, Cond.keeps, Cond.steady])) hini)
  obtain ⟨hx, hb, hml, ho, -⟩ := S
  obtain ⟨-, ⟨cellB, hcB, hoB, hclB⟩, hPc⟩ := hp
  intro T hT X
  rcases vx_callVU X hx (C := C) (owner := owner) (bytes := bytes) (maxL := maxL) (ret := ret) ho cw.link cw.same cw.decl cw.notMH cw.sel cw.inst cw.code hK (by rw [hT]; exact hcB) hoB hclB hg (hsize.trans hml.symm) (argsL := As) (rest := rest) (fun sig h => hn.trans (cw.len sig h)) hstack hW (by rw [hb]; exact hdg)
    (fun vm₁ hW₁ => ⟨hf.1, hf.2, hPc (T.setVm vm₁) hT hW₁⟩) with ⟨v, vm₁, ⟨U', l2, c2, s2⟩, hW₁, X', ⟨g', mk, t, L, e1, e2, hq, h1, hL, h2, h3⟩, st⟩ | ⟨q, vm₁, ⟨U', l2, c2, s2⟩, hW₁, X', ⟨g', mk, t, L, E, ce, e1, e2, hq, hce, hcv, hcl, h1, hL, h2, h3⟩, st⟩
  · dsimp only [Pt.U, Pt.locs, Pt.cells, Pt.slots] at X' e1 e2 h1 h2 h3 st
    subst h1; subst h2; subst h3
    exact Or.inl ⟨v, (T.setVm vm₁).calling g' mk (Value.ref b :: As).toArray, t, U', L, hT, X', hL, e1, e2, hq, st⟩
  · dsimp only [Pt.U, Pt.locs, Pt.cells, Pt.slots] at X' e1 e2 h1 h2 h3 st hcl
    subst h1; subst h2; subst h3
    exact Or.inr ⟨q, (T.setVm vm₁).calling g' mk (Value.ref b :: As).toArray, t, U', L, E, ce, hT, X', hL, e1, e2, hq, hce, hcv, vx_cls hW₁ hcl, st⟩
end
/-! ===== END ===== -/
/-! ===== BEGIN super.m(..) that may throw (follows va_callSU, va_runSU) ===== -/
section
variable {p : Program} {l : Launch} {e : Env} {R : Room} {s : State} {m : MethodId} {args : Array Value} {below : List Frame} {meth : Method} {c : Code} {H : Heap} {locs : List Loc} {cells slots : Nat}
theorem vx_callSU {T : State} {locs : List Loc} {cells slots : Nat} (X : Stand p l e R s m args below meth c T locs cells slots) (hexec : p.tables.exec = Jvm.exec) {own : String} {index : Nat} {y : MethodName} {bytes : ByteArray} {maxL : Nat} {ret : Option FieldType}
    (hown : s.vm.findClass own = some m.cls) (hlink : (Cond.methodLink own index y).before args s = true) (hsame : (Cond.sameMethod y.cls y.cls y.name y.desc).before args s = true) (hsup : (Cond.superclass own y.cls).before args s = true)
    (hinst : (Cond.instanceMethod y).before args s = true) (hcode : (Cond.code y bytes maxL ret).before args s = true) (hno : y.name ≠ "<init>")
    {W : Nat} {Pre : Pt → Array Value → Prop} {Post : Pt → Array Value → Option Value → Pt → Prop} {PostX : Pt → Array Value → Addr → Pt → Prop} (hK : vx_Back l R p e below s args y 3 W Pre Post PostX)
    {b : Addr} {cellB : Cell} {kB : Class} (hcell : T.heap[b]? = some cellB) (hobj : cellB.vm.isStatics = false) (hkB : s.vm.classes[cellB.cls]? = some kB)
    {g : JFrame} (hg : g.method = m) (hsize : g.locals.size = c.maxLocals) {argsL rest : List Value} (hlen : ∀ sig, parseMethodDescriptor y.desc = some sig → argsL.length = sig.parameters.length)
    (hstack : g.stack = argsL.reverse ++ .ref b :: rest) (hW : 2 * g.monitorRoom + (rest.map fun v => v.category).sum ≤ W) (hdg : decode c.code g.pc = .ok (.invokespecial index, 3))
    (hpre : ∀ vm₁, s.WarmedH vm₁ → Pre ⟨T.setVm vm₁, locs, cells, slots⟩ (Value.ref b :: argsL).toArray) :
    (∃ (v : Option Value) (vm₁ : Vm) (B : Pt), s.WarmedH vm₁ ∧ Stand p l e R s m args below meth c B.U B.locs B.cells B.slots ∧ Post ⟨T.setVm vm₁, locs, cells, slots⟩ (Value.ref b :: argsL).toArray v B ∧
      ∀ target, Steps p.tables e below (B.U.setTop { g with pc := g.pc + 3, stack := v.toList ++ rest }) target → Steps p.tables e below (T.setTop g) target) ∨
    (∃ (q : Addr) (vm₁ : Vm) (B : Pt), s.WarmedH vm₁ ∧ Stand p l e R s m args below meth c B.U B.locs B.cells B.slots ∧ PostX ⟨T.setVm vm₁, locs, cells, slots⟩ (Value.ref b :: argsL).toArray q B ∧
      Steps p.tables e below (T.setTop g) ((B.U.setTop { g with stack := rest }).pushFrame (.throwing q))) := by
  obtain ⟨mk, methM, hnamed, hmethM, hstM, habM⟩ := Cond.instanceMethod_spec hinst
  obtain ⟨methM', cM, hmethM', -, -, -, -, -, -, hsigM⟩ := Cond.code_spec hnamed hcode
  cases hmethM.symm.trans hmethM'
  obtain ⟨ps, dk, kp, hps, hdk, hkp, hsuper, -, -, hnid⟩ := Cond.superclass_spec hown hsup
  have hn : s.methodNamed? ⟨y.cls, y.name, y.desc⟩ = some mk := hnamed
  have hpm : ps = mk.cls := Option.some.inj (hps.symm.trans (findClass_of_methodNamed hnamed))
  have hsub : s.vm.isSubclass ps mk.cls = true := by rw [hpm]; simp [Vm.isSubclass, Vm.isSubclassAux]
  obtain ⟨vm₁, X₁, hstep₁⟩ := X.invokespecialUp hexec hown hlink hsame hn hmethM hstM habM hno hdk hnid hps hsuper hsub (a := b) (cell := cellB) hcell
    (fun z h => by rw [h] at hobj; cases hobj) hkB (g := g) hg (argsL := argsL) (rest := rest) (hlen _ hsigM) hstack hdg
  rcases hK m meth c ⟨T.setVm vm₁, locs, cells, slots⟩ { g with stack := rest } (.invokespecial index) mk (Value.ref b :: argsL).toArray X₁ hg hsize hdg hW (X₁.named hnamed) (hpre vm₁ X₁.warmed) with ⟨v, B, X', hpost, hsteps⟩ | ⟨q, B, X', hpost, hsteps⟩
  · exact Or.inl ⟨v, vm₁, B, X₁.warmed, X', hpost, fun target h => hstep₁ _ (by rw [doInvoke_state]; exact hsteps.trans h)⟩
  · exact Or.inr ⟨q, vm₁, B, X₁.warmed, X', hpost, hstep₁ _ (by rw [doInvoke_state]; exact hsteps)⟩
theorem vx_runSU {y : MethodName} {bytes cc : ByteArray} {maxL nL mc ms n index : Nat} {ret : Option FieldType} {ws : List Cond} {rm : Room} {Pc : Array Value → State → Prop} {Qc : Array Value → State → Outcome → State → Prop} {XC : String → State → State → Prop} {free : Addr → Prop} {Ts : List Cond} {own C : String} {cC : ClassId} {b : Addr} {As rest : List Value} {g : JFrame}
    (hat : ClassAt s C cC) (S : CallFix p m c cc nL s args Ts own) (hM : vx_Met l y ws rm Pc Qc XC mc ms free) (cw : va_CS R s args own index y bytes maxL ret ws rm mc ms n) (hp : PreV s H C b Pc As)
    (hg : g.method = m) (hn : As.length = n) (hsize : g.locals.size = nL) (hstack : g.stack = As.reverse ++ .ref b :: rest) (hW : 2 * g.monitorRoom + (rest.map fun v => v.category).sum ≤ 8) (hdg : decode cc g.pc = .ok (.invokespecial index, 3)) (hf : cells + mc ≤ R.cells ∧ slots + ms ≤ R.slots) :
    vx_Run p l e R s m args below meth c H locs cells slots mc ms g rest (Qc (Value.ref b :: As).toArray) XC free := by
  obtain ⟨⟨hrc, hrs, hfr, hlo, hws, hcw⟩, hl1, hl2, hl3, hl4, hini, hcode, hno, hlen⟩ := cw
  have hK : vx_Back l R p e below s args y 3 8 (PreOf R mc ms Pc) (PostOf Qc mc ms free) (vx_Post XC mc ms free) := vx_back (bytes := bytes) (maxL := maxL) (ret := ret) hM hp.1 hrc hrs hfr hlo hws hcw (fun a' U hW => word_at hW (Or.inl (by first | rfl | simp [Cond.onTables, Cond.keeps, Cond.steady])) hini)
  obtain ⟨hx, hb, hml, ho, -⟩ := S
  obtain ⟨-, ⟨cellB, hcB, hoB, hclB⟩, hPc⟩ := hp
  obtain ⟨hfc, kB, hkB, -⟩ := hat
  cases hfc.symm.trans hclB
  intro T hT X
  rcases vx_callSU X hx (bytes := bytes) (maxL := maxL) (ret := ret) ho hl1 hl2 hl3 hl4 hcode hno hK (by rw [hT]; exact hcB) hoB hkB hg (hsize.trans hml.symm) (argsL := As) (rest := rest) (fun sig h => hn.trans (hlen sig h)) hstack hW (by rw [hb]; exact hdg)
    (fun vm₁ hW₁ => ⟨hf.1, hf.2, hPc (T.setVm vm₁) hT hW₁⟩) with ⟨v, vm₁, ⟨U', l2, c2, s2⟩, hW₁, X', ⟨g', mk, t, L, e1, e2, hq, h1, hL, h2, h3⟩, st⟩ | ⟨q, vm₁, ⟨U', l2, c2, s2⟩, hW₁, X', ⟨g', mk, t, L, E, ce, e1, e2, hq, hce, hcv, hcl, h1, hL, h2, h3⟩, st⟩
  · dsimp only [Pt.U, Pt.locs, Pt.cells, Pt.slots] at X' e1 e2 h1 h2 h3 st
    subst h1; subst h2; subst h3
    exact Or.inl ⟨v, (T.setVm vm₁).calling g' mk (Value.ref b :: As).toArray, t, U', L, hT, X', hL, e1, e2, hq, st⟩
  · dsimp only [Pt.U, Pt.locs, Pt.cells, Pt.slots] at X' e1 e2 h1 h2 h3 st hcl
    subst h1; subst h2; subst h3
    exact Or.inr ⟨q, (T.setVm vm₁).calling g' mk (Value.ref b :: As).toArray, t, U', L, E, ce, hT, X', hL, e1, e2, hq, hce, hcv, vx_cls hW₁ hcl, st⟩
end
/-! ===== END ===== -/
end STRP
section STRR
variable {C : cT} {cc : ByteArray} {nL : Nat} {y : MethodName} {rm : Room} {Q : State → Prop} {cs sl : Nat} {S : mS} {pc : Nat} {lv : List (Nat × Value)} {st : List Value}
theorem x_getsCO (hC : CX C cc nL y rm) {index : Nat} (hL : Cond.fieldLink y.cls index "java/lang/String" "COMPACT_STRINGS" "Z" ∈ wt) (hd : decode cc pc = .ok (.getstatic index, 3)) (k : XX C nL Q cs sl S (pc + 3) lv (.int 1 :: st)) : XX C nL Q cs sl S pc lv st := by
  obtain ⟨p, l, e, R, s, m, args, below, meth, c, D, cA, A, n0, ad0, ex⟩ := C
  intro ad H locs ls h0 ha hM hS hl hlo hso
  exact va_gets hC.1 hC.2.1 hC.2.2.2.2.2.2.2.2.2.2.2.2.2.2.2.2.2.2.1 hS hC.2.2.2.1 (hC.2.2.2.2.1 _ hL) (fun _ h => h) hd (k ad H locs ls h0 ha hM hS hl hlo (sok_c trivial hso))
theorem x_getsAS (hC : CX C cc nL y rm) {index : Nat} (hL : Cond.fieldLink y.cls index "java/lang/StringUTF16" "$assertionsDisabled" "Z" ∈ wt) (hd : decode cc pc = .ok (.getstatic index, 3)) (k : XX C nL Q cs sl S (pc + 3) lv (.int 1 :: st)) : XX C nL Q cs sl S pc lv st := by
  obtain ⟨p, l, e, R, s, m, args, below, meth, c, D, cA, A, n0, ad0, ex⟩ := C
  intro ad H locs ls h0 ha hM hS hl hlo hso
  exact va_gets hC.1 hC.2.1 hC.2.2.2.2.2.2.2.2.2.2.2.2.2.2.2.2.2.2.2.1 hS hC.2.2.2.1 (hC.2.2.2.2.1 _ hL) (fun _ h => h) hd (k ad H locs ls h0 ha hM hS hl hlo (sok_c trivial hso))
theorem x_getsHI (hC : CX C cc nL y rm) {index : Nat} (hL : Cond.fieldLink y.cls index "java/lang/StringUTF16" "HI_BYTE_SHIFT" "I" ∈ wt) (hd : decode cc pc = .ok (.getstatic index, 3)) (k : XX C nL Q cs sl S (pc + 3) lv (.int 0 :: st)) : XX C nL Q cs sl S pc lv st := by
  obtain ⟨p, l, e, R, s, m, args, below, meth, c, D, cA, A, n0, ad0, ex⟩ := C
  intro ad H locs ls h0 ha hM hS hl hlo hso
  exact va_gets hC.1 hC.2.1 hC.2.2.2.2.2.2.2.2.2.2.2.2.2.2.2.2.2.2.2.2.1 hS hC.2.2.2.1 (hC.2.2.2.2.1 _ hL) (fun _ h => h) hd (k ad H locs ls h0 ha hM hS hl hlo (sok_c trivial hso))
theorem x_getsLO (hC : CX C cc nL y rm) {index : Nat} (hL : Cond.fieldLink y.cls index "java/lang/StringUTF16" "LO_BYTE_SHIFT" "I" ∈ wt) (hd : decode cc pc = .ok (.getstatic index, 3)) (k : XX C nL Q cs sl S (pc + 3) lv (.int 8 :: st)) : XX C nL Q cs sl S pc lv st := by
  obtain ⟨p, l, e, R, s, m, args, below, meth, c, D, cA, A, n0, ad0, ex⟩ := C
  intro ad H locs ls h0 ha hM hS hl hlo hso
  exact va_gets hC.1 hC.2.1 hC.2.2.2.2.2.2.2.2.2.2.2.2.2.2.2.2.2.2.2.2.2.1 hS hC.2.2.2.1 (hC.2.2.2.2.1 _ hL) (fun _ h => h) hd (k ad H locs ls h0 ha hM hS hl hlo (sok_c trivial hso))
theorem x_getsSF (hC : CX C cc nL y rm) {index : Nat} (hL : Cond.fieldLink y.cls index "jdk/internal/util/Preconditions" "SIOOBE_FORMATTER" "Ljava/util/function/BiFunction;" ∈ wt) (hd : decode cc pc = .ok (.getstatic index, 3)) (k : ∀ w9 : Nat, XX C nL Q cs sl S (pc + 3) lv (.ref w9 :: st)) : XX C nL Q cs sl S pc lv st := by
  obtain ⟨p, l, e, R, s, m, args, below, meth, c, D, cA, A, n0, ad0, ex⟩ := C
  intro ad H locs ls h0 ha hM hS hl hlo hso
  rcases hC.2.2.2.2.2.2.2.2.2.2.2.2.2.2.2.2.2.2.2.2.2.2 with hz | hz
  · have hk := k (KB + 21) ad H locs ls h0 ha hM hS hl hlo (sok_c (Or.inr (Nat.le_add_right _ _)) hso)
    rw [List.map_cons, tv_K, kz_ag ha] at hk
    exact va_gets hC.1 hC.2.1 hz hS hC.2.2.2.1 (hC.2.2.2.2.1 _ hL) (fun _ h => h) hd hk
  · exact va_gets hC.1 hC.2.1 hz hS hC.2.2.2.1 (hC.2.2.2.2.1 _ hL) (fun _ h => h) hd (k 0 ad H locs ls h0 ha hM hS hl hlo (sok_c (Or.inl (Nat.zero_le _)) hso))
theorem x_getKv (hC : CX C cc nL y rm) {index i : Nat} (hi : i < 3) (hL : Cond.fieldLink y.cls index "java/lang/String" "value" "[B" ∈ wt) (hd : decode cc pc = .ok (.getfield index, 3)) (k : XX C nL Q cs sl S (pc + 3) lv (.ref (KB + (10 + i)) :: st)) : XX C nL Q cs sl S pc lv (.ref (KB + i) :: st) := by
  obtain ⟨p, l, e, R, s, m, args, below, meth, c, D, cA, A, n0, ad0, ex⟩ := C
  intro ad H locs ls h0 ha hM hS hl hlo hso
  have hk := k ad H locs ls h0 ha hM hS hl hlo (sok_c (Or.inr (Nat.le_add_right _ _)) (sok_t hso))
  rw [List.map_cons, tv_K, kz_ag ha] at hk
  show W p l e R s m args below meth c H locs cs sl Q (F0 m pc ls (tv ad (.ref (KB + i)) :: st.map (tv ad)))
  rw [tv_K, kz_ag ha]
  exact vk_getf hC.1 hC.2.1 (hC.2.2.2.2.2.2.2.2.2.2.2.2.2.2.1.1 i hi).2.2.1 hS hC.2.2.2.1 (hC.2.2.2.2.1 _ hL) (fun _ h => h) hd hk
theorem x_getKc (hC : CX C cc nL y rm) {index i : Nat} (hi : i < 3) (hL : Cond.fieldLink y.cls index "java/lang/String" "coder" "B" ∈ wt) (hd : decode cc pc = .ok (.getfield index, 3)) (k : XX C nL Q cs sl S (pc + 3) lv (.int 0 :: st)) : XX C nL Q cs sl S pc lv (.ref (KB + i) :: st) := by
  obtain ⟨p, l, e, R, s, m, args, below, meth, c, D, cA, A, n0, ad0, ex⟩ := C
  intro ad H locs ls h0 ha hM hS hl hlo hso
  have hk := k ad H locs ls h0 ha hM hS hl hlo (sok_c trivial (sok_t hso))
  show W p l e R s m args below meth c H locs cs sl Q (F0 m pc ls (tv ad (.ref (KB + i)) :: st.map (tv ad)))
  rw [tv_K, kz_ag ha]
  exact vk_getf hC.1 hC.2.1 (hC.2.2.2.2.2.2.2.2.2.2.2.2.2.2.1.1 i hi).2.1 hS hC.2.2.2.1 (hC.2.2.2.2.1 _ hL) (fun _ h => h) hd hk
theorem x_getSvv (hC : CX C cc nL y rm) {r index : Nat} (hL : Cond.fieldLink y.cls index "java/lang/String" "value" "[B" ∈ wt) (hd : decode cc pc = .ok (.getfield index, 3)) (hg : (r < KB ∧ gK S r = 1) ∨ (KB ≤ r ∧ r < KB + 3)) (kk : ∀ vv : Nat, vv = (if r < KB then gR S r 0 else r + 10) → XX C nL Q cs sl S (pc + 3) lv (.ref vv :: st)) : XX C nL Q cs sl S pc lv (.ref r :: st) := by
  rcases hg with ⟨h1, h2⟩ | ⟨h1, h2⟩
  · exact x_getR (ci := 0) (k := 0) hC fc_1 ⟨Or.inl hL, Or.inl rfl⟩ hd rfl h2 (kk _ (if_pos h1).symm)
  · obtain ⟨i, rfl⟩ : ∃ i, r = KB + i := ⟨r - KB, by omega⟩
    exact x_getKv hC (by omega) hL hd (kk (KB + (10 + i)) (by rw [if_neg (by omega)]; omega))
theorem x_getScv (hC : CX C cc nL y rm) {r index : Nat} (hL : Cond.fieldLink y.cls index "java/lang/String" "coder" "B" ∈ wt) (hd : decode cc pc = .ok (.getfield index, 3)) (hg : (r < KB ∧ gK S r = 1) ∨ (KB ≤ r ∧ r < KB + 3)) (kk : ∀ vv : Int32, vv = (if r < KB then gI S r 1 else 0) → XX C nL Q cs sl S (pc + 3) lv (.int vv :: st)) : XX C nL Q cs sl S pc lv (.ref r :: st) := by
  rcases hg with ⟨h1, h2⟩ | ⟨h1, h2⟩
  · exact x_getI (ci := 0) (k := 1) hC fc_1 ⟨Or.inl hL, Or.inl rfl⟩ hd rfl h2 (kk _ (if_pos h1).symm)
  · obtain ⟨i, rfl⟩ : ∃ i, r = KB + i := ⟨r - KB, by omega⟩
    exact x_getKc hC (by omega) hL hd (kk 0 (by rw [if_neg (by omega)]))
def zb (S : mS) (r : Nat) : Nat := if r < KB then gZ S r else kLen.getD (r - (KB + 10)) 0
def ib (S : mS) (r k : Nat) : Int32 := if r < KB then gI S r k else (kByt.getD (r - (KB + 10)) []).getD k 0
theorem x_alenB (hC : CX C cc nL y rm) {r : Nat} (hd : decode cc pc = .ok (.arraylength, 1)) (hg : (r < KB ∧ gK S r = 33) ∨ (KB + 10 ≤ r ∧ r < KB + 13)) (kk : ∀ vv : Int32, vv = Int32.ofNat (zb S r) → XX C nL Q cs sl S (pc + 1) lv (.int vv :: st)) : XX C nL Q cs sl S pc lv (.ref r :: st) := by
  rcases hg with ⟨h1, h2⟩ | ⟨h1, h2⟩
  · exact x_alen (t0 := 3) hC hd h2 (by decide) (fun _ => rfl) (kk _ (by unfold zb; rw [if_pos h1]))
  · obtain ⟨i, rfl⟩ : ∃ i, r = KB + (10 + i) := ⟨r - (KB + 10), by omega⟩
    have hz : zb S (KB + (10 + i)) = kLen.getD i 0 := by
      unfold zb
      rw [if_neg (by omega), show KB + (10 + i) - (KB + 10) = i from by omega]
    have k1 := kk _ rfl
    rw [hz] at k1
    have hi : i < 3 := by omega
    obtain ⟨p, l, e, R, s, m, args, below, meth, c, D, cA, A, n0, ad0, ex⟩ := C
    intro ad H locs ls h0 ha hM hS hl hlo hso
    have hk := k1 ad H locs ls h0 ha hM hS hl hlo (sok_c trivial (sok_t hso))
    show W p l e R s m args below meth c H locs cs sl Q (F0 m pc ls (tv ad (.ref (KB + (10 + i))) :: st.map (tv ad)))
    rw [tv_K, kz_ag ha]
    exact va_tlen hC.1 hC.2.1 (hC.2.2.2.2.2.2.2.2.2.2.2.2.2.2.1.1 i hi).2.2.2 hS rfl hd hk
theorem x_yaldB (hC : CX C cc nL y rm) {r : Nat} {i : Int32} (hd : decode cc pc = .ok (.baload, 1)) (hg : (r < KB ∧ gK S r = 33) ∨ (KB + 10 ≤ r ∧ r < KB + 13)) (hin : ¬ (i < 0 ∨ zb S r ≤ i.toNatClampNeg)) (kk : ∀ vv : Int32, vv = ib S r i.toNatClampNeg → XX C nL Q cs sl S (pc + 1) lv (.int vv :: st)) : XX C nL Q cs sl S pc lv (.int i :: .ref r :: st) := by
  rcases hg with ⟨h1, h2⟩ | ⟨h1, h2⟩
  · have hz : zb S r = gZ S r := by unfold zb; rw [if_pos h1]
    rw [hz] at hin
    exact x_yald hC hd h2 hin (kk _ (by unfold ib; rw [if_pos h1]))
  · obtain ⟨j, rfl⟩ : ∃ j, r = KB + (10 + j) := ⟨r - (KB + 10), by omega⟩
    have hz : zb S (KB + (10 + j)) = kLen.getD j 0 := by
      unfold zb
      rw [if_neg (by omega), show KB + (10 + j) - (KB + 10) = j from by omega]
    have hv : ib S (KB + (10 + j)) i.toNatClampNeg = (kByt.getD j []).getD i.toNatClampNeg 0 := by
      unfold ib
      rw [if_neg (by omega), show KB + (10 + j) - (KB + 10) = j from by omega]
    have k1 := kk _ rfl
    rw [hv] at k1
    rw [hz] at hin
    have hi : j < 3 := by omega
    obtain ⟨p, l, e, R, s, m, args, below, meth, c, D, cA, A, n0, ad0, ex⟩ := C
    intro ad H locs ls h0 ha hM hS hl hlo hso
    have hk := k1 ad H locs ls h0 ha hM hS hl hlo (sok_c trivial (sok_t (sok_t hso)))
    show W p l e R s m args below meth c H locs cs sl Q (F0 m pc ls (.int i :: tv ad (.ref (KB + (10 + j))) :: st.map (tv ad)))
    rw [tv_K, kz_ag ha]
    exact va_tb hC.1 hC.2.1 (hC.2.2.2.2.2.2.2.2.2.2.2.2.2.2.1.1 j hi).2.2.2 hS hin rfl hd hk
theorem x_i2bv (hC : CX C cc nL y rm) {a : Int32} (hd : decode cc pc = .ok (.i2b, 1)) (k : ∀ vv : Int32, vv = a.toInt8.toInt32 → XX C nL Q cs sl S (pc + 1) lv (.int vv :: st)) : XX C nL Q cs sl S pc lv (.int a :: st) := by
  obtain ⟨p, l, e, R, s, m, args, below, meth, c, D, cA, A, n0, ad0, ex⟩ := C
  intro ad H locs ls h0 ha hM hS hl hlo hso
  exact lv_i2b hC.1 hC.2.1 hd rfl (k _ rfl ad H locs ls h0 ha hM hS hl hlo (sok_c trivial (sok_t hso)))
theorem nf_Y {v : Int32} (h : v.toInt8.toInt32 = v) : NF .byte v := by
  have h2 := lg_i2b_range v
  rw [h] at h2
  have h3 : (-128 : Int32) ≤ v := by rw [Int32.le_iff_toInt_le, show (-128 : Int32).toInt = -128 from by decide]; omega
  have h4 : v ≤ (127 : Int32) := by rw [Int32.le_iff_toInt_le, show (127 : Int32).toInt = 127 from by decide]; omega
  refine ⟨by show Value.int v.toInt8.toInt32 = .int v; rw [h], ?_⟩
  show (decide (-128 ≤ v) && decide (v ≤ 127)) = true
  simp [h3, h4]
theorem x_acmp_eqK (hC : CX C cc nL y rm) {r q : Nat} (hk : (r < KB ∧ q < KB) ∨ r = q) {off : Int} (tgt : Nat) (hd : decode cc pc = .ok (.if_acmp .eq off, 3)) (ht : (pc : Int) + off = (tgt : Int)) (kt : r = q → XX C nL Q cs sl S tgt lv st) (kf : ¬ r = q → XX C nL Q cs sl S (pc + 3) lv st) : XX C nL Q cs sl S pc lv (.ref q :: .ref r :: st) := by
  rcases hk with ⟨h1, h2⟩ | h
  · exact x_acmp_eq hC h1 h2 tgt hd ht kt kf
  · subst h
    have k1 := kt rfl
    obtain ⟨p, l, e, R, s, m, args, below, meth, c, D, cA, A, n0, ad0, ex⟩ := C
    intro ad H locs ls h0 ha hM hS hl hlo hso
    exact lv_acmp_eq hC.1 hC.2.1 (rx := ro ad r) (ry := ro ad r) hd ht (fun _ => k1 ad H locs ls h0 ha hM hS hl hlo (sok_t (sok_t hso))) (fun h => absurd rfl h)
theorem x_acmp_neK (hC : CX C cc nL y rm) {r q : Nat} (hk : (r < KB ∧ q < KB) ∨ r = q) {off : Int} (tgt : Nat) (hd : decode cc pc = .ok (.if_acmp .ne off, 3)) (ht : (pc : Int) + off = (tgt : Int)) (kt : ¬ r = q → XX C nL Q cs sl S tgt lv st) (kf : r = q → XX C nL Q cs sl S (pc + 3) lv st) : XX C nL Q cs sl S pc lv (.ref q :: .ref r :: st) := by
  rcases hk with ⟨h1, h2⟩ | h
  · exact x_acmp_ne hC h1 h2 tgt hd ht kt kf
  · subst h
    have k1 := kf rfl
    obtain ⟨p, l, e, R, s, m, args, below, meth, c, D, cA, A, n0, ad0, ex⟩ := C
    intro ad H locs ls h0 ha hM hS hl hlo hso
    exact lv_acmp_ne hC.1 hC.2.1 (rx := ro ad r) (ry := ro ad r) hd ht (fun h => absurd rfl h) (fun _ => k1 ad H locs ls h0 ha hM hS hl hlo (sok_t (sok_t hso)))
theorem x_rastA (hC : CX C cc nL y rm) {a v kd t0 : Nat} {i : Int32} (hd : decode cc pc = .ok (.aastore, 1)) (hk : gK S a = kd) (hkd : 34 ≤ kd ∧ kd ≠ 38 ∧ kd ≠ 39) (ht : ∀ cA, (tyA cA)[t0]? = some (cA kd, .object "java/lang/Object")) (hE : Cond.castable "[I" "java/lang/Object" ∈ wn) (hkv : gK S v = 30) (hin : ¬ (i < 0 ∨ gZ S a ≤ i.toNatClampNeg)) (kk : ∀ vv : mS, vv = sR S a i.toNatClampNeg v → XX C nL Q cs sl vv (pc + 1) lv st) : XX C nL Q cs sl S pc lv (.ref v :: .int i :: .ref a :: st) := by
  have k1 := kk _ rfl
  obtain ⟨p, l, e, R, s, m, args, below, meth, c, D, cA, A, n0, ad0, ex⟩ := C
  intro ad H locs ls h0 ha hM hS hl hlo hso
  have he := hM.arr hk (by omega)
  have hev := hM.arr hkv (by omega)
  have hp := hM.pos hk (by omega)
  have hpv := hM.pos hkv (by omega)
  rw [ca_R hkd] at he
  rw [ca_I (by omega)] at hev
  show W p l e R s m args below meth c H locs cs sl Q (F0 m pc ls (tv ad (.ref v) :: .int i :: tv ad (.ref a) :: st.map (tv ad)))
  rw [tv_pos hp.1, tv_pos hpv.1]
  have hset := pw_aR (cA := cA) (ad := ad) (k := i.toNatClampNeg) (v := v) hp.1 hp.2 hk (by omega) hkd.2.1 hkd.2.2
  have er : ro ad v = some (ad v) := by unfold ro; rw [if_neg (by omega)]
  rw [er] at hset
  have hcl : s.vm.findClass "[I" = some (cA 30) := (hC.2.2.2.2.2.1.2 0 (cA 30, .int) rfl).2
  obtain ⟨c0, t1, f1, f2, f3⟩ := Cond.castable_spec (hC.2.2.2.2.2.2.2.2.1.use (A := args) hE)
  have hcell : H[ad v]? = some (vp_cell (cA 30) (gZ S v, .inl (fun i => gI S v i))) := hM.1 (v - 1) _ hev
  refine vb_astq (C := "[I") hC.1 hC.2.1 hC.2.2.2.2.2.1 hM.1 hM.2.1 hS (a - 1) t0 he (ht cA) ⟨_, hcell, rfl, hcl⟩ (fun comp c9 q1 q2 => by
    cases f1.symm.trans q2
    cases f2.symm.trans q1
    exact f3) hin hd (fun H1 locs1 g1 g2 g3 => ?_)
  rw [hset] at g1 g2
  exact k1 ad H1 locs1 ls h0 ha ⟨g1, g2, hM.2.2.1, WF_R hM.2.2.2 (Or.inl hpv.2)⟩ g3 hl hlo (sok_t (sok_t (sok_t hso)))
theorem x_callVS {τ : Type} {inj : τ → Option Value} {o : Rs τ} {l1 : Launch} {y1 : MethodName} {b1 : ByteArray} {n1 index na r : Nat} {ret1 : Option FieldType} {rm1 : Room} {As rest : List Value} (hC : CX C cc nL y rm) (hl1 : C.2.1 = l1) (hct : CT inj l1 y1 (.code y1 b1 n1 ret1) rm1 S (.ref r :: As) o) (hL : LKV y.cls index y1 (.code y1 b1 n1 ret1) na) (hy : y1.cls = "java/lang/String") (hg : (r < KB ∧ gK S r = 1) ∨ (KB ≤ r ∧ r < KB + 3)) (hd : decode cc pc = .ok (.invokevirtual index, 3)) (hn : As.length = na) (hst : st = As.reverse ++ .ref r :: rest) (hr : (rest.map fun v => v.category).sum ≤ 8) (hf : rm1.frames + 1 ≤ rm.frames ∧ 8 + (n1 + 11) + rm1.locals ≤ rm.locals) (hc : cs + rm1.cells ≤ rm.cells ∧ sl + rm1.slots ≤ rm.slots) (k : XK C nL Q (cs + rm1.cells) (sl + rm1.slots) inj o pc (pc + 3) lv rest) : XX C nL Q cs sl S pc lv st := by
  rcases hg with ⟨hg1, hg2⟩ | ⟨hg1, hg2⟩
  · exact x_callV (ci := 0) hC hl1 hct hL (by rw [hy]; exact fc_1) hg2 hd hn hst hr hf hc k
  obtain ⟨p, l, e, R, s, m, args, below, meth, c, D, cA, A, n0, ad0, ex⟩ := C
  intro ad H locs ls h0 ha hM hS hl hlo hso
  subst hl1
  have hR : R = rm := hC.2.2.2.2.2.2.2.2.2.2.2.1
  subst hR
  subst hst
  have hvs : ∀ v ∈ Value.ref r :: As, vok (gN S) v := fun v hv => by
    rcases List.mem_cons.mp hv with h | h
    · exact hso v (List.mem_append_right _ (by rw [h]; exact List.mem_cons_self))
    · exact hso v (List.mem_append_left _ (List.mem_reverse.mpr h))
  have hrs : ∀ v ∈ rest, vok (gN S) v := fun v hv => hso v (List.mem_append_right _ (List.mem_cons_of_mem _ hv))
  obtain ⟨i, rfl⟩ : ∃ i, r = KB + i := ⟨r - KB, by omega⟩
  have er : tv ad (.ref (KB + i)) = .ref (kz ad i) := tv_K
  have ek : kz ad i = kz ad0 i := by rw [kz_ag ha]
  have hrec := vk_recv hC.2.2.2.2.2.2.2.2.2.2.2.2.2.2.1 (show i < 3 from by omega) hS
  rw [← ek, ← hy] at hrec
  exact run_fin hC.2.2.2.2.2.2.1 h0 ha hM hS hl hlo hrs (vx_runV (b := kz ad i) (As := As.map (tv ad)) (rest := rest.map (tv ad)) (C := y1.cls) ⟨hC.1, hC.2.1, hC.2.2.1, hC.2.2.2.1, hC.2.2.2.2.1⟩ (hct D cA ad H.size) ⟨⟨rfl, rfl, hf.1, hf.2, wt_ws hC.2.2.2.2.1 hL.2.2.2.2.1, List.mem_cons_self, hC.2.2.2.2.1 _ hL.2.2.2.2.1, hC.2.2.2.2.1 _ hL.2.2.2.1, hL.2.2.2.2.2.1, hL.2.2.2.2.2.len, hC.2.2.2.2.1 _ hL.1⟩, hC.2.2.2.2.1 _ hL.2.1, hC.2.2.2.2.1 _ hL.2.2.1⟩ ⟨pm_blind, hrec, fun U hU hW => ⟨by rw [List.map_cons, er], pm_at hC.2.2.2.2.2.1 hC.2.2.2.2.2.2.1 hC.2.2.2.2.2.2.2.1 hC.2.2.2.2.2.2.2.2.1 hM hS hvs (by rw [kz_ag ha]; exact hC.2.2.2.2.2.2.2.2.2.2.2.2.2.2) hU hW⟩⟩ rfl (by rw [List.length_map]; exact hn) hl.1 (by rw [List.map_append, List.map_reverse, List.map_cons, er]) (lv_room (by rw [cat_tv]; exact hr)) hd hc) k
theorem sel_priv {CN : String} {y1 : MethodName} {s : State} {args : Array Value} {n : Nat} (hy : y1.cls ≠ "java/lang/invoke/MethodHandle" ∧ y1.cls ≠ "java/lang/invoke/VarHandle") (hins : (Cond.instantiable CN n).before args s = true) (hpriv : (Cond.privateMethod y1).before args s = true) (hinst : (Cond.instanceMethod y1).before args s = true) (hsame : (Cond.sameMethod y1.cls y1.cls y1.name y1.desc).before args s = true) : (Cond.selects CN y1 y1).before args s = true := by
  obtain ⟨c, k, hc, hk, -, hniab, -, -⟩ := Cond.instantiable_spec hins
  have hni : k.isInterface = false := (Bool.or_eq_false_iff.mp hniab).1
  obtain ⟨mk, methM, hnamed, hmethM, -, -⟩ := Cond.instanceMethod_spec hinst
  have hfound : s.methodFound? y1.cls y1.name y1.desc = some mk := State.methodFound?_of_named hnamed hy
  obtain ⟨cP, kP, r0, hcP, hkP, hkPi, -, -⟩ := Cond.sameMethod_found hsame
  have e : mk.cls = cP := Option.some.inj ((findClass_of_methodNamed hnamed).symm.trans hcP)
  rw [← e] at hkP
  have hsel : selectMethod {} s.vm c mk = .method mk := selectMethod_private hmethM (Cond.privateMethod_at hpriv mk methM hnamed hmethM)
  simp only [Cond.before, Cond.holds, Cond.value, hc, hfound, hnamed, hsel, hkP]
  simp; exact hkPi
def LKC (own : String) (index : Nat) (CN : String) (y : MethodName) (wh : Cond) (na : Nat) : Prop := Cond.methodLink own index y ∈ wt ∧ Cond.instanceMethod y ∈ wt ∧ (Cond.selects CN y y ∈ wt ∨ ∃ n, Cond.instantiable CN n ∈ wt ∧ Cond.privateMethod y ∈ wn ∧ Cond.instanceMethod y ∈ wt ∧ Cond.sameMethod y.cls y.cls y.name y.desc ∈ wt) ∧ Cond.initialized y.cls ∈ wt ∧ wh ∈ wt ∧ notMH y na
theorem x_callC {τ : Type} {inj : τ → Option Value} {o : Rs τ} {l1 : Launch} {y1 : MethodName} {b1 : ByteArray} {n1 index na r : Nat} {ret1 : Option FieldType} {rm1 : Room} {As rest : List Value} (hC : CX C cc nL y rm) (hl1 : C.2.1 = l1) (hct : CT inj l1 y1 (.code y1 b1 n1 ret1) rm1 S (.ref r :: As) o) {ci N : Nat} {CN : String} {T : u_T} {ty : Nat → FieldType} (hL : LKC y.cls index CN y1 (.code y1 b1 n1 ret1) na) (hF : FC ci CN T N ty) (hk : gK S r = ci + 1) (hd : decode cc pc = .ok (.invokevirtual index, 3)) (hn : As.length = na) (hst : st = As.reverse ++ .ref r :: rest) (hr : (rest.map fun v => v.category).sum ≤ 8) (hf : rm1.frames + 1 ≤ rm.frames ∧ 8 + (n1 + 11) + rm1.locals ≤ rm.locals) (hc : cs + rm1.cells ≤ rm.cells ∧ sl + rm1.slots ≤ rm.slots) (k : XK C nL Q (cs + rm1.cells) (sl + rm1.slots) inj o pc (pc + 3) lv rest) : XX C nL Q cs sl S pc lv st := by
  obtain ⟨p, l, e, R, s, m, args, below, meth, c, D, cA, A, n0, ad0, ex⟩ := C
  intro ad H locs ls h0 ha hM hS hl hlo hso
  subst hl1
  have hR : R = rm := hC.2.2.2.2.2.2.2.2.2.2.2.1
  subst hR
  subst hst
  have hvs : ∀ v ∈ Value.ref r :: As, vok (gN S) v := fun v hv => by
    rcases List.mem_cons.mp hv with h | h
    · exact hso v (List.mem_append_right _ (by rw [h]; exact List.mem_cons_self))
    · exact hso v (List.mem_append_left _ (List.mem_reverse.mpr h))
  have hrs : ∀ v ∈ rest, vok (gN S) v := fun v hv => hso v (List.mem_append_right _ (List.mem_cons_of_mem _ hv))
  have he := hM.obj hk hF.2.2.2.2.1
  have hp := (hM.pos hk (Nat.succ_le_succ (Nat.zero_le _))).1
  have er : tv ad (.ref r) = .ref (ad r) := tv_pos hp
  have hrec := va_recv hC.2.2.2.2.2.1 hM.1 hF.1 he
  have hsel : (Cond.selects CN y1 y1).before args s = true := by
    rcases hL.2.2.1 with h | ⟨n, h1, h2, h3, h4⟩
    · exact hC.2.2.2.2.1 _ h
    · exact sel_priv hL.2.2.2.2.2.1 (hC.2.2.2.2.1 _ h1) (hC.2.2.2.2.2.2.2.2.1.use h2) (hC.2.2.2.2.1 _ h3) (hC.2.2.2.2.1 _ h4)
  exact run_fin hC.2.2.2.2.2.2.1 h0 ha hM hS hl hlo hrs (vx_runV (b := ad r) (As := As.map (tv ad)) (rest := rest.map (tv ad)) (C := CN) ⟨hC.1, hC.2.1, hC.2.2.1, hC.2.2.2.1, hC.2.2.2.2.1⟩ (hct D cA ad H.size) ⟨⟨rfl, rfl, hf.1, hf.2, wt_ws hC.2.2.2.2.1 hL.2.2.2.2.1, List.mem_cons_self, hC.2.2.2.2.1 _ hL.2.2.2.2.1, hC.2.2.2.2.1 _ hL.2.2.2.1, hL.2.2.2.2.2.1, hL.2.2.2.2.2.len, hC.2.2.2.2.1 _ hL.1⟩, hC.2.2.2.2.1 _ hL.2.1, hsel⟩ ⟨pm_blind, hrec, fun U hU hW => ⟨by rw [List.map_cons, er], pm_at hC.2.2.2.2.2.1 hC.2.2.2.2.2.2.1 hC.2.2.2.2.2.2.2.1 hC.2.2.2.2.2.2.2.2.1 hM hS hvs (by rw [kz_ag ha]; exact hC.2.2.2.2.2.2.2.2.2.2.2.2.2.2) hU hW⟩⟩ rfl (by rw [List.length_map]; exact hn) hl.1 (by rw [List.map_append, List.map_reverse, List.map_cons, er]) (lv_room (by rw [cat_tv]; exact hr)) hd hc) k
def LKU (own : String) (index : Nat) (CN : String) (x y : MethodName) (wh : Cond) (na : Nat) : Prop := Cond.methodLink own index x ∈ wt ∧ Cond.sameMethod x.cls x.cls x.name x.desc ∈ wt ∧ Cond.selects CN x y ∈ wt ∧ Cond.instanceMethod y ∈ wt ∧ Cond.initialized y.cls ∈ wt ∧ wh ∈ wt ∧ (Cond.instanceMethod x ∈ wt ∧ ∃ b n r, Cond.code x b n r ∈ wt) ∧ notMH x na
theorem x_callU {τ : Type} {inj : τ → Option Value} {o : Rs τ} {l1 : Launch} {y1 : MethodName} {b1 : ByteArray} {n1 index na r : Nat} {ret1 : Option FieldType} {rm1 : Room} {As rest : List Value} (hC : CX C cc nL y rm) (hl1 : C.2.1 = l1) (hct : CT inj l1 y1 (.code y1 b1 n1 ret1) rm1 S (.ref r :: As) o) {ci N : Nat} {CN : String} {x1 : MethodName} {T : u_T} {ty : Nat → FieldType} (hL : LKU y.cls index CN x1 y1 (.code y1 b1 n1 ret1) na) (hF : FC ci CN T N ty) (hk : gK S r = ci + 1) (hd : decode cc pc = .ok (.invokevirtual index, 3)) (hn : As.length = na) (hst : st = As.reverse ++ .ref r :: rest) (hr : (rest.map fun v => v.category).sum ≤ 8) (hf : rm1.frames + 1 ≤ rm.frames ∧ 8 + (n1 + 11) + rm1.locals ≤ rm.locals) (hc : cs + rm1.cells ≤ rm.cells ∧ sl + rm1.slots ≤ rm.slots) (k : XK C nL Q (cs + rm1.cells) (sl + rm1.slots) inj o pc (pc + 3) lv rest) : XX C nL Q cs sl S pc lv st := by
  obtain ⟨p, l, e, R, s, m, args, below, meth, c, D, cA, A, n0, ad0, ex⟩ := C
  intro ad H locs ls h0 ha hM hS hl hlo hso
  subst hl1
  have hR : R = rm := hC.2.2.2.2.2.2.2.2.2.2.2.1
  subst hR
  subst hst
  have hvs : ∀ v ∈ Value.ref r :: As, vok (gN S) v := fun v hv => by
    rcases List.mem_cons.mp hv with h | h
    · exact hso v (List.mem_append_right _ (by rw [h]; exact List.mem_cons_self))
    · exact hso v (List.mem_append_left _ (List.mem_reverse.mpr h))
  have hrs : ∀ v ∈ rest, vok (gN S) v := fun v hv => hso v (List.mem_append_right _ (List.mem_cons_of_mem _ hv))
  have he := hM.obj hk hF.2.2.2.2.1
  have hp := (hM.pos hk (Nat.succ_le_succ (Nat.zero_le _))).1
  have er : tv ad (.ref r) = .ref (ad r) := tv_pos hp
  have hrec := va_recv hC.2.2.2.2.2.1 hM.1 hF.1 he
  obtain ⟨q1, q2, q3, q4, q5, q6, ⟨q7, b9, n9, r9, q8⟩, q9⟩ := hL
  exact run_fin hC.2.2.2.2.2.2.1 h0 ha hM hS hl hlo hrs (vx_runU (x := x1) (b := ad r) (As := As.map (tv ad)) (rest := rest.map (tv ad)) (C := CN) (owner := x1.cls) ⟨hC.1, hC.2.1, hC.2.2.1, hC.2.2.2.1, hC.2.2.2.2.1⟩ (hct D cA ad H.size) ⟨⟨rfl, rfl, hf.1, hf.2, wt_ws hC.2.2.2.2.1 q6, List.mem_cons_self⟩, hC.2.2.2.2.1 _ q6, hC.2.2.2.2.1 _ q5, q9.1, q9.len, hC.2.2.2.2.1 _ q1, hC.2.2.2.2.1 _ q2, va_Decl.of (hC.2.2.2.2.1 _ q7) (hC.2.2.2.2.1 _ q8), hC.2.2.2.2.1 _ q3, hC.2.2.2.2.1 _ q4⟩ ⟨pm_blind, hrec, fun U hU hW => ⟨by rw [List.map_cons, er], pm_at hC.2.2.2.2.2.1 hC.2.2.2.2.2.2.1 hC.2.2.2.2.2.2.2.1 hC.2.2.2.2.2.2.2.2.1 hM hS hvs (by rw [kz_ag ha]; exact hC.2.2.2.2.2.2.2.2.2.2.2.2.2.2) hU hW⟩⟩ rfl (by rw [List.length_map]; exact hn) hl.1 (by rw [List.map_append, List.map_reverse, List.map_cons, er]) (lv_room (by rw [cat_tv]; exact hr)) hd hc) k
def LKP (own : String) (index : Nat) (y : MethodName) (wh : Cond) (na : Nat) : Prop := Cond.methodLink own index y ∈ wt ∧ Cond.sameMethod y.cls y.cls y.name y.desc ∈ wt ∧ Cond.superclass own y.cls ∈ wt ∧ Cond.instanceMethod y ∈ wt ∧ Cond.initialized y.cls ∈ wt ∧ wh ∈ wt ∧ y.name ≠ "<init>" ∧ notMH y na
theorem x_callP {τ : Type} {inj : τ → Option Value} {o : Rs τ} {l1 : Launch} {y1 : MethodName} {b1 : ByteArray} {n1 index na r : Nat} {ret1 : Option FieldType} {rm1 : Room} {As rest : List Value} (hC : CX C cc nL y rm) (hl1 : C.2.1 = l1) (hct : CT inj l1 y1 (.code y1 b1 n1 ret1) rm1 S (.ref r :: As) o) {ci N : Nat} {CN : String} {T : u_T} {ty : Nat → FieldType} (hL : LKP y.cls index y1 (.code y1 b1 n1 ret1) na) (hF : FC ci CN T N ty) (hk : gK S r = ci + 1) (hd : decode cc pc = .ok (.invokespecial index, 3)) (hn : As.length = na) (hst : st = As.reverse ++ .ref r :: rest) (hr : (rest.map fun v => v.category).sum ≤ 8) (hf : rm1.frames + 1 ≤ rm.frames ∧ 8 + (n1 + 11) + rm1.locals ≤ rm.locals) (hc : cs + rm1.cells ≤ rm.cells ∧ sl + rm1.slots ≤ rm.slots) (k : XK C nL Q (cs + rm1.cells) (sl + rm1.slots) inj o pc (pc + 3) lv rest) : XX C nL Q cs sl S pc lv st := by
  obtain ⟨p, l, e, R, s, m, args, below, meth, c, D, cA, A, n0, ad0, ex⟩ := C
  intro ad H locs ls h0 ha hM hS hl hlo hso
  subst hl1
  have hR : R = rm := hC.2.2.2.2.2.2.2.2.2.2.2.1
  subst hR
  subst hst
  have hvs : ∀ v ∈ Value.ref r :: As, vok (gN S) v := fun v hv => by
    rcases List.mem_cons.mp hv with h | h
    · exact hso v (List.mem_append_right _ (by rw [h]; exact List.mem_cons_self))
    · exact hso v (List.mem_append_left _ (List.mem_reverse.mpr h))
  have hrs : ∀ v ∈ rest, vok (gN S) v := fun v hv => hso v (List.mem_append_right _ (List.mem_cons_of_mem _ hv))
  have he := hM.obj hk hF.2.2.2.2.1
  have hp := (hM.pos hk (Nat.succ_le_succ (Nat.zero_le _))).1
  have er : tv ad (.ref r) = .ref (ad r) := tv_pos hp
  have hrec := va_recv hC.2.2.2.2.2.1 hM.1 hF.1 he
  obtain ⟨q1, q2, q3, q4, q5, q6, q7, q8⟩ := hL
  exact run_fin hC.2.2.2.2.2.2.1 h0 ha hM hS hl hlo hrs (vx_runSU (b := ad r) (As := As.map (tv ad)) (rest := rest.map (tv ad)) (C := CN) (hC.2.2.2.2.2.1.1 ci _ hF.1).2 ⟨hC.1, hC.2.1, hC.2.2.1, hC.2.2.2.1, hC.2.2.2.2.1⟩ (hct D cA ad H.size) ⟨⟨rfl, rfl, hf.1, hf.2, wt_ws hC.2.2.2.2.1 q6, List.mem_cons_self⟩, hC.2.2.2.2.1 _ q1, hC.2.2.2.2.1 _ q2, hC.2.2.2.2.1 _ q3, hC.2.2.2.2.1 _ q4, hC.2.2.2.2.1 _ q5, hC.2.2.2.2.1 _ q6, q7, q8.len⟩ ⟨pm_blind, hrec, fun U hU hW => ⟨by rw [List.map_cons, er], pm_at hC.2.2.2.2.2.1 hC.2.2.2.2.2.2.1 hC.2.2.2.2.2.2.2.1 hC.2.2.2.2.2.2.2.2.1 hM hS hvs (by rw [kz_ag ha]; exact hC.2.2.2.2.2.2.2.2.2.2.2.2.2.2) hU hW⟩⟩ rfl (by rw [List.length_map]; exact hn) hl.1 (by rw [List.map_append, List.map_reverse, List.map_cons, er]) (lv_room (by rw [cat_tv]; exact hr)) hd hc) k
end STRR
section STRC
variable {C : cT} {cc : ByteArray} {nL : Nat} {y : MethodName} {rm : Room} {Q : State → Prop} {cs sl : Nat} {S : mS} {pc : Nat} {lv : List (Nat × Value)} {st : List Value}
def LKN (own : String) (index : Nat) : Prop := Cond.methodLink own index arraycopyName ∈ wt ∧ Cond.native arraycopyName ∈ wt ∧ Cond.static arraycopyName ∈ wt ∧ Cond.initialized "java/lang/System" ∈ wt
theorem cpy1 {f g : Nat → Int32} {v : Int32} (hv : v = f 0) : va_cpy f g 0 0 1 = upd g 0 v := by
  funext k
  unfold va_cpy upd
  by_cases h : k = 0
  · subst h; rw [if_pos (by omega), if_pos rfl, hv]
  · rw [if_neg (by omega), if_neg h]
theorem cpy2 {f g : Nat → Int32} {v w : Int32} (hv : v = f 0) (hw : w = f 1) : va_cpy f g 0 0 2 = upd (upd g 0 v) 1 w := by
  funext k
  unfold va_cpy upd
  by_cases h : k = 1
  · subst h; rw [if_pos (by omega), if_pos rfl, hw]
  · by_cases h0 : k = 0
    · subst h0; rw [if_pos (by omega), if_neg h, if_pos rfl, hv]
    · rw [if_neg (by omega), if_neg h, if_neg h0]
theorem cpy0 {f g : Nat → Int32} {sp dp : Nat} : va_cpy f g sp dp 0 = g := by
  funext k
  unfold va_cpy
  rw [if_neg (by omega)]
theorem x_copyY1 (hC : CX C cc nL y rm) {a b index : Nat} {sp dp n v : Int32} (hL : LKN y.cls index) (hd : decode cc pc = .ok (.invokestatic index, 3)) (ha0 : gK S a = 33) (hb0 : gK S b = 33) (hsp : sp = 0) (hdp : dp = 0) (hn : n = 1) (hia : ¬ ((0 : Int32) < 0 ∨ gZ S a ≤ ((0 : Int32)).toNatClampNeg)) (hib : ¬ ((0 : Int32) < 0 ∨ gZ S b ≤ ((0 : Int32)).toNatClampNeg)) (hv : v = gI S a ((0 : Int32)).toNatClampNeg) (hf : v.toInt8.toInt32 = v) (hfr : 1 ≤ rm.frames) (hlc : (st.map fun v => v.category).sum + (nativeFrameWords "java/lang/System" "arraycopy" 5 + 11) ≤ rm.locals) (kk : ∀ vv : mS, vv = sI S b ((0 : Int32)).toNatClampNeg v → XX C nL Q cs sl vv (pc + 3) lv st) : XX C nL Q cs sl S pc lv (.int n :: .int dp :: .ref b :: .int sp :: .ref a :: st) := by
  subst hsp
  subst hdp
  subst hn
  have k1 := kk _ rfl
  obtain ⟨p, l, e, R, s, m, args, below, meth, c, D, cA, A, n0, ad0, ex⟩ := C
  intro ad H locs ls h0 ha hM hS hl hlo hso
  have hR : R = rm := hC.2.2.2.2.2.2.2.2.2.2.2.1
  subst hR
  have t0 : ((0 : Int32)).toNatClampNeg = 0 := by decide
  have t1 : ((1 : Int32)).toNatClampNeg = 1 := by decide
  rw [t0] at hia hib hv k1
  have za : ¬ gZ S a ≤ 0 := fun h => hia (Or.inr h)
  have zb9 : ¬ gZ S b ≤ 0 := fun h => hib (Or.inr h)
  have hea := hM.arr ha0 (by omega)
  have heb := hM.arr hb0 (by omega)
  rw [ca_I (by omega)] at hea heb
  have hpa := hM.pos ha0 (by omega)
  have hpb := hM.pos hb0 (by omega)
  show W p l e R s m args below meth c H locs cs sl Q (F0 m pc ls (.int 1 :: .int 0 :: tv ad (.ref b) :: .int 0 :: tv ad (.ref a) :: st.map (tv ad)))
  rw [tv_pos hpa.1, tv_pos hpb.1]
  refine va_copyi (ty := .byte) hC.1 hC.2.1 (by rw [hC.2.2.1]; exact hl.1.symm) hC.2.2.2.1 (hC.2.2.2.2.1 _ hL.1) (hC.2.2.2.2.1 _ hL.2.1) (hC.2.2.2.2.1 _ hL.2.2.1) (hC.2.2.2.2.1 _ hL.2.2.2) hC.2.2.2.2.2.1 hM.1 hM.2.1 hS (a - 1) (b - 1) 3 3 hea heb rfl rfl rfl (by decide) (by decide) (by decide) (by rw [t0, t1]; omega) (by rw [t0, t1]; omega) (fun i hi => ?_) hfr (by rw [cat_tv]; exact hlc) hd (fun H1 locs1 g1 g2 g3 => ?_)
  · rw [t1] at hi
    obtain rfl : i = 0 := by omega
    rw [t0]
    have := (nf_Y hf).2
    rw [hv] at this
    exact this
  · rw [t0, t1, cpy1 hv, pw_aI hpb.1 hpb.2 hb0 (by omega) (by omega)] at g1 g2
    exact k1 ad H1 locs1 ls h0 ha ⟨g1, g2, hM.2.2.1, hM.2.2.2⟩ g3 hl hlo (sok_t (sok_t (sok_t (sok_t (sok_t hso)))))
theorem x_copyY2 (hC : CX C cc nL y rm) {a b index : Nat} {sp dp n v w : Int32} (hL : LKN y.cls index) (hd : decode cc pc = .ok (.invokestatic index, 3)) (ha0 : gK S a = 33) (hb0 : gK S b = 33) (hsp : sp = 0) (hdp : dp = 0) (hn : n = 2) (hia : ¬ ((1 : Int32) < 0 ∨ gZ S a ≤ ((1 : Int32)).toNatClampNeg)) (hib : ¬ ((1 : Int32) < 0 ∨ gZ S b ≤ ((1 : Int32)).toNatClampNeg)) (hv : v = gI S a ((0 : Int32)).toNatClampNeg) (hf : v.toInt8.toInt32 = v) (hw : w = gI S a ((1 : Int32)).toNatClampNeg) (hf2 : w.toInt8.toInt32 = w) (hfr : 1 ≤ rm.frames) (hlc : (st.map fun v => v.category).sum + (nativeFrameWords "java/lang/System" "arraycopy" 5 + 11) ≤ rm.locals) (kk : ∀ vv : mS, vv = sI (sI S b ((0 : Int32)).toNatClampNeg v) b ((1 : Int32)).toNatClampNeg w → XX C nL Q cs sl vv (pc + 3) lv st) : XX C nL Q cs sl S pc lv (.int n :: .int dp :: .ref b :: .int sp :: .ref a :: st) := by
  subst hsp
  subst hdp
  subst hn
  have k1 := kk _ rfl
  obtain ⟨p, l, e, R, s, m, args, below, meth, c, D, cA, A, n0, ad0, ex⟩ := C
  intro ad H locs ls h0 ha hM hS hl hlo hso
  have hR : R = rm := hC.2.2.2.2.2.2.2.2.2.2.2.1
  subst hR
  have t0 : ((0 : Int32)).toNatClampNeg = 0 := by decide
  have t1 : ((1 : Int32)).toNatClampNeg = 1 := by decide
  have t2 : ((2 : Int32)).toNatClampNeg = 2 := by decide
  rw [t1] at hia hib hw
  rw [t0] at hv
  rw [t0, t1] at k1
  have za : ¬ gZ S a ≤ 1 := fun h => hia (Or.inr h)
  have zb9 : ¬ gZ S b ≤ 1 := fun h => hib (Or.inr h)
  have hea := hM.arr ha0 (by omega)
  have heb := hM.arr hb0 (by omega)
  rw [ca_I (by omega)] at hea heb
  have hpa := hM.pos ha0 (by omega)
  have hpb := hM.pos hb0 (by omega)
  show W p l e R s m args below meth c H locs cs sl Q (F0 m pc ls (.int 2 :: .int 0 :: tv ad (.ref b) :: .int 0 :: tv ad (.ref a) :: st.map (tv ad)))
  rw [tv_pos hpa.1, tv_pos hpb.1]
  refine va_copyi (ty := .byte) hC.1 hC.2.1 (by rw [hC.2.2.1]; exact hl.1.symm) hC.2.2.2.1 (hC.2.2.2.2.1 _ hL.1) (hC.2.2.2.2.1 _ hL.2.1) (hC.2.2.2.2.1 _ hL.2.2.1) (hC.2.2.2.2.1 _ hL.2.2.2) hC.2.2.2.2.2.1 hM.1 hM.2.1 hS (a - 1) (b - 1) 3 3 hea heb rfl rfl rfl (by decide) (by decide) (by decide) (by rw [t0, t2]; omega) (by rw [t0, t2]; omega) (fun i hi => ?_) hfr (by rw [cat_tv]; exact hlc) hd (fun H1 locs1 g1 g2 g3 => ?_)
  · rw [t2] at hi
    rw [t0]
    rcases (show i = 0 ∨ i = 1 by omega) with rfl | rfl
    · have := (nf_Y hf).2
      rw [hv] at this
      exact this
    · have := (nf_Y hf2).2
      rw [hw] at this
      exact this
  · have e1 : (pw cA ad S).set (b - 1) (ad b, .inl (cA 33, gZ S b, .inl (upd (upd (fun i => gI S b i) 0 v) 1 w))) = pw cA ad (sI (sI S b 0 v) b 1 w) := by
      have u1 : upd (fun i => gI S b i) 0 v = fun i => gI (sI S b 0 v) b i := by
        funext k
        rw [gI_sI]
        unfold upd
        by_cases h : k = 0
        · rw [if_pos h, if_pos ⟨rfl, h⟩]
        · rw [if_neg h, if_neg (fun q => h q.2)]
      rw [← pw_aI (S := sI S b 0 v) (n := b) (k := 1) (v := w) hpb.1 hpb.2 hb0 (by omega) (by omega), ← pw_aI (S := S) (n := b) (k := 0) (v := v) hpb.1 hpb.2 hb0 (by omega) (by omega), List.set_set, u1]
      rfl
    rw [t0, t2, cpy2 hv hw, e1] at g1 g2
    exact k1 ad H1 locs1 ls h0 ha ⟨g1, g2, hM.2.2.1, hM.2.2.2⟩ g3 hl hlo (sok_t (sok_t (sok_t (sok_t (sok_t hso)))))
theorem x_copyK (hC : CX C cc nL y rm) {a b index : Nat} {sp dp n : Int32} (hL : LKN y.cls index) (hd : decode cc pc = .ok (.invokestatic index, 3)) (hg : KB + 10 ≤ a ∧ a < KB + 13) (hb0 : gK S b = 33) (hsp : sp = 0) (hn : n = 0) (hib : ¬ (dp < 0 ∨ gZ S b ≤ dp.toNatClampNeg)) (hfr : 1 ≤ rm.frames) (hlc : (st.map fun v => v.category).sum + (nativeFrameWords "java/lang/System" "arraycopy" 5 + 11) ≤ rm.locals) (k1 : XX C nL Q cs sl S (pc + 3) lv st) : XX C nL Q cs sl S pc lv (.int n :: .int dp :: .ref b :: .int sp :: .ref a :: st) := by
  subst hsp
  subst hn
  obtain ⟨i, rfl⟩ : ∃ i, a = KB + (10 + i) := ⟨a - (KB + 10), by omega⟩
  have hi : i < 3 := by omega
  obtain ⟨p, l, e, R, s, m, args, below, meth, c, D, cA, A, n0, ad0, ex⟩ := C
  intro ad H locs ls h0 ha hM hS hl hlo hso
  have hR : R = rm := hC.2.2.2.2.2.2.2.2.2.2.2.1
  subst hR
  have t0 : ((0 : Int32)).toNatClampNeg = 0 := by decide
  have heb := hM.arr hb0 (by omega)
  rw [ca_I (by omega)] at heb
  have hpb := hM.pos hb0 (by omega)
  have hdp : ¬ dp < 0 := fun h => hib (Or.inl h)
  have hle : ¬ gZ S b ≤ dp.toNatClampNeg := fun h => hib (Or.inr h)
  show W p l e R s m args below meth c H locs cs sl Q (F0 m pc ls (.int 0 :: .int dp :: tv ad (.ref b) :: .int 0 :: tv ad (.ref (KB + (10 + i))) :: st.map (tv ad)))
  rw [tv_pos hpb.1, tv_K, kz_ag ha]
  refine vk_copyt hC.1 hC.2.1 (by rw [hC.2.2.1]; exact hl.1.symm) hC.2.2.2.1 (hC.2.2.2.2.1 _ hL.1) (hC.2.2.2.2.1 _ hL.2.1) (hC.2.2.2.2.1 _ hL.2.2.1) (hC.2.2.2.2.1 _ hL.2.2.2) hC.2.2.2.2.2.1 hM.1 hM.2.1 hS (hC.2.2.2.2.2.2.2.2.2.2.2.2.2.2.1.1 i hi).2.2.2 (b - 1) 3 heb rfl (by decide) hdp (by decide) (by rw [t0]; omega) (by rw [t0]; omega) (fun j hj => by rw [t0] at hj; omega) hfr (by rw [cat_tv]; exact hlc) hd (fun H1 locs1 g1 g2 g3 => ?_)
  have e1 : (pw cA ad S).set (b - 1) (ad b, .inl (cA 33, gZ S b, .inl (fun i => gI S b i))) = pw cA ad S := pw_set hpb.1 hpb.2 rfl (by rw [ce_arr hb0 (by omega), ca_I (by omega)]) (fun _ _ => rfl)
  rw [t0, cpy0, e1] at g1 g2
  exact k1 ad H1 locs1 ls h0 ha ⟨g1, g2, hM.2.2.1, hM.2.2.2⟩ g3 hl hlo (sok_t (sok_t (sok_t (sok_t (sok_t hso)))))
end STRC
