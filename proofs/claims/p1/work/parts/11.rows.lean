section ROWA
def tv (ad : Nat → Nat) : Value → Value
  | .ref n => rv ad n
  | v => v
theorem tv_cat (ad : Nat → Nat) (v : Value) : (tv ad v).category = v.category := by
  cases v <;> first | rfl | exact rv_cat ad _
def vok (N : Nat) : Value → Prop
  | .ref n => rK N n
  | _ => True
theorem vok_mono {N M : Nat} (h : N ≤ M) {v : Value} (hv : vok N v) : vok M v := by
  cases v <;> first | exact trivial | exact hv.elim (fun z => Or.inl (Nat.le_trans z h)) Or.inr
def AG (N : Nat) (ad' ad : Nat → Nat) : Prop := ∀ n, rK N n → ad' n = ad n
theorem AG.rf {N : Nat} {ad : Nat → Nat} : AG N ad ad := fun _ _ => rfl
theorem AG.tr {N M : Nat} {a b c : Nat → Nat} (h1 : AG M a b) (hNM : N ≤ M) (h2 : AG N b c) : AG N a c := fun n hn => (h1 n (hn.elim (fun z => Or.inl (Nat.le_trans z hNM)) Or.inr)).trans (h2 n hn)
theorem tv_eq {ad ad' : Nat → Nat} {N : Nat} (h : AG N ad' ad) {v : Value} (hv : vok N v) : tv ad' v = tv ad v := by
  cases v with
  | ref n =>
    show rv ad' n = rv ad n
    have e := h n hv
    simp [rv, ro, e]
  | _ => rfl
theorem tvs_eq {ad ad' : Nat → Nat} {N : Nat} (h : AG N ad' ad) {st : List Value} (hv : ∀ v ∈ st, vok N v) : st.map (tv ad') = st.map (tv ad) :=
  List.map_congr_left (fun v hm => tv_eq h (hv v hm))
theorem tvl_eq {ad ad' : Nat → Nat} {N : Nat} (h : AG N ad' ad) {lv : List (Nat × Value)} (hv : ∀ q ∈ lv, vok N q.2) : lv.map (fun q => (q.1, tv ad' q.2)) = lv.map (fun q => (q.1, tv ad q.2)) :=
  List.map_congr_left (fun q hm => by rw [tv_eq h (hv q hm)])
theorem tvl_at {ad : Nat → Nat} {lv ex : List (Nat × Value)} {k i : Nat} {v : Value} (h : lv[k]? = some (i, v)) : (lv.map (fun q => (q.1, tv ad q.2)) ++ ex)[k]? = some (i, tv ad v) := by
  have hk : k < lv.length := (List.getElem?_eq_some_iff.mp h).1
  rw [List.getElem?_append_left (by rw [List.length_map]; exact hk), List.getElem?_map, h]; rfl
theorem tvl_st {ad : Nat → Nat} {lv lv' ex : List (Nat × Value)} {i : Nat} {v : Value} (hex : ∀ q ∈ ex, q.1 = 0 ∧ q.2.category = 1) (hi : 1 ≤ i) (h : (i, v) :: lv.filter (fun q => !(q.1 == i) && !(q.1 + 1 == i && q.2.category == 2)) = lv') : (i, tv ad v) :: (lv.map (fun q => (q.1, tv ad q.2)) ++ ex).filter (fun q => !(q.1 == i) && !(q.1 + 1 == i && q.2.category == 2)) = lv'.map (fun q => (q.1, tv ad q.2)) ++ ex := by
  subst h
  have e1 : ex.filter (fun q => !(q.1 == i) && !(q.1 + 1 == i && q.2.category == 2)) = ex := by
    apply List.filter_eq_self.mpr
    intro q hq
    obtain ⟨a1, a2⟩ := hex q hq
    have b1 : (q.1 == i) = false := by rw [beq_eq_false_iff_ne]; omega
    have b2 : (q.2.category == 2) = false := by rw [beq_eq_false_iff_ne]; omega
    rw [b1, b2]; simp
  rw [List.filter_append, e1, List.map_cons, List.filter_map, List.cons_append]
  congr 3
  apply List.filter_congr
  intro q _
  show (!(q.1 == i) && !(q.1 + 1 == i && (tv ad q.2).category == 2)) = _
  rw [tv_cat]
theorem tvl_st2 {ad : Nat → Nat} {lv lv' ex : List (Nat × Value)} {i : Nat} {v : Value} (hex : ∀ q ∈ ex, q.1 = 0 ∧ q.2.category = 1) (hi : 1 ≤ i) (h : (i, v) :: lv.filter (fun q => !(q.1 == i) && (!(q.1 == i + 1) && !(q.1 + 1 == i && q.2.category == 2))) = lv') : (i, tv ad v) :: (lv.map (fun q => (q.1, tv ad q.2)) ++ ex).filter (fun q => !(q.1 == i) && (!(q.1 == i + 1) && !(q.1 + 1 == i && q.2.category == 2))) = lv'.map (fun q => (q.1, tv ad q.2)) ++ ex := by
  subst h
  have e1 : ex.filter (fun q => !(q.1 == i) && (!(q.1 == i + 1) && !(q.1 + 1 == i && q.2.category == 2))) = ex := by
    apply List.filter_eq_self.mpr
    intro q hq
    obtain ⟨a1, a2⟩ := hex q hq
    have b1 : (q.1 == i) = false := by rw [beq_eq_false_iff_ne]; omega
    have b3 : (q.1 == i + 1) = false := by rw [beq_eq_false_iff_ne]; omega
    have b2 : (q.2.category == 2) = false := by rw [beq_eq_false_iff_ne]; omega
    rw [b1, b2, b3]; simp
  rw [List.filter_append, e1, List.map_cons, List.filter_map, List.cons_append]
  congr 3
  apply List.filter_congr
  intro q _
  show (!(q.1 == i) && (!(q.1 == i + 1) && !(q.1 + 1 == i && (tv ad q.2).category == 2))) = _
  rw [tv_cat]
theorem nk {N r : Nat} (h : r < KB) (hv : vok N (.ref r)) : r ≤ N := hv.elim id (fun z => absurd h (Nat.not_lt.mpr z))
theorem lok_st {N i : Nat} {v : Value} {lv lv' : List (Nat × Value)} {f : Nat × Value → Bool} (h : (i, v) :: lv.filter f = lv') (hl : ∀ q ∈ lv, vok N q.2) (hv : vok N v) : ∀ q ∈ lv', vok N q.2 := by
  subst h
  intro q hq
  rcases List.mem_cons.mp hq with e | e
  · rw [e]; exact hv
  · exact hl q (List.mem_filter.mp e).1
theorem lok_at {N k i : Nat} {v : Value} {lv : List (Nat × Value)} (h : lv[k]? = some (i, v)) (hl : ∀ q ∈ lv, vok N q.2) : vok N v := hl _ (List.mem_of_getElem? h)
theorem sok_c {N : Nat} {v : Value} {st : List Value} (h1 : vok N v) (h2 : ∀ x ∈ st, vok N x) : ∀ x ∈ v :: st, vok N x := List.forall_mem_cons.mpr ⟨h1, h2⟩
theorem sok_h {N : Nat} {v : Value} {st : List Value} (h : ∀ x ∈ v :: st, vok N x) : vok N v := (List.forall_mem_cons.mp h).1
theorem sok_t {N : Nat} {v : Value} {st : List Value} (h : ∀ x ∈ v :: st, vok N x) : ∀ x ∈ st, vok N x := (List.forall_mem_cons.mp h).2
def EE (A : Nat → Prop) (U : State) (H : Heap) : Prop := vx_Zq Bundle.tN "UNASSIGNED_STACK" Bundle.steD A U H ∧ vx_Zq Bundle.tN "SUPPRESSED_SENTINEL" Bundle.listD A U H
def NN (U : State) : Prop := (∀ w ∈ wn, w.before #[] U = true) ∧ (∀ q ∈ ncs, va_Nc q.1 q.2 U) ∧ ∀ q ∈ sts, ∃ a, vk_R q.1 q.2.1 q.2.2 a U
def kz (ad : Nat → Nat) : Nat → Nat := fun i => ad (KB + i)
theorem kz_ag {N : Nat} {ad ad' : Nat → Nat} (h : AG N ad' ad) : kz ad' = kz ad := funext fun i => h (KB + i) (Or.inr (Nat.le_add_right _ _))
def ksts : List (String × Nat × String × Nat) := [("MixBoothModel", 40, "", 0), ("MixBoothModel", 205, "lmr", 1), ("MixBoothModel", 228, "erc", 2)]
abbrev kLen : List Nat := [0, 3, 3]
abbrev kByt : List (List Int32) := [[], [108, 109, 114], [101, 114, 99]]
def SK (z : Nat → Nat) (A : Nat → Prop) (U : State) (H : Heap) : Prop := vk_S 3 kLen kByt (fun i => z i) (fun i => z (10 + i)) A U H ∧ (∀ q ∈ ksts, vk_R q.1 q.2.1 q.2.2.1 (z q.2.2.2) U) ∧ va_Z "java/util/ArrayList" "DEFAULTCAPACITY_EMPTY_ELEMENTDATA" "[Ljava/lang/Object;" (.ref (z 20)) A U H ∧ va_T (.object "java/lang/Object") (z 20) 0 (fun _ => .null) A U H ∧ (va_Z "java/lang/String" "COMPACT_STRINGS" "Z" (.int 1) A U H ∧ va_Z "java/lang/StringUTF16" "$assertionsDisabled" "Z" (.int 1) A U H ∧ va_Z "java/lang/StringUTF16" "HI_BYTE_SHIFT" "I" (.int 0) A U H ∧ va_Z "java/lang/StringUTF16" "LO_BYTE_SHIFT" "I" (.int 8) A U H ∧ (va_Z "jdk/internal/util/Preconditions" "SIOOBE_FORMATTER" "Ljava/util/function/BiFunction;" (.ref (z 21)) A U H ∨ va_Z "jdk/internal/util/Preconditions" "SIOOBE_FORMATTER" "Ljava/util/function/BiFunction;" .null A U H))
theorem SK.kept {z : Nat → Nat} {A : Nat → Prop} {U : State} {H H1 : Heap} (h : SK z A U H) (hq : ∀ a : Nat, a < H.size → ¬ A a → H1[a]? = H[a]?) : SK z A U H1 := ⟨h.1.kept hq, h.2.1, h.2.2.1.kept hq, h.2.2.2.1.kept hq, ⟨h.2.2.2.2.1.kept hq, h.2.2.2.2.2.1.kept hq, h.2.2.2.2.2.2.1.kept hq, h.2.2.2.2.2.2.2.1.kept hq, h.2.2.2.2.2.2.2.2.elim (fun q => Or.inl (q.kept hq)) (fun q => Or.inr (q.kept hq))⟩⟩
theorem SK.narrow {z : Nat → Nat} {A B : Nat → Prop} {U : State} {H : Heap} (h : SK z A U H) (hAB : ∀ q, B q → A q) : SK z B U H := ⟨h.1.narrow hAB, h.2.1, h.2.2.1.narrow hAB, h.2.2.2.1.narrow hAB, ⟨h.2.2.2.2.1.narrow hAB, h.2.2.2.2.2.1.narrow hAB, h.2.2.2.2.2.2.1.narrow hAB, h.2.2.2.2.2.2.2.1.narrow hAB, h.2.2.2.2.2.2.2.2.elim (fun q => Or.inl (q.narrow hAB)) (fun q => Or.inr (q.narrow hAB))⟩⟩
theorem SK.moved {z : Nat → Nat} {A : Nat → Prop} {s U : State} {H : Heap} (hW : s.WarmedH U.vm) (h : SK z A s H) : SK z A U H := ⟨vk_S.moved hW.alike h.1, fun q hq => vk_R.warm hW (h.2.1 q hq), va_Z.moved hW.alike h.2.2.1, va_T.moved hW.alike h.2.2.2.1, ⟨va_Z.moved hW.alike h.2.2.2.2.1, va_Z.moved hW.alike h.2.2.2.2.2.1, va_Z.moved hW.alike h.2.2.2.2.2.2.1, va_Z.moved hW.alike h.2.2.2.2.2.2.2.1, h.2.2.2.2.2.2.2.2.elim (fun q => Or.inl (va_Z.moved hW.alike q)) (fun q => Or.inr (va_Z.moved hW.alike q))⟩⟩
abbrev cT : Type := Program × Launch × Env × Room × State × MethodId × Array Value × List Frame × Method × Code × va_G × (Nat → ClassId) × (Nat → Prop) × Nat × (Nat → Nat) × List (Nat × Value)
def XX (C : cT) (nL : Nat) (Q : State → Prop) (ce sl : Nat) (S : mS) (pc : Nat) (lv : List (Nat × Value)) (st : List Value) : Prop :=
  match C with
  | (p, l, e, R, s, m, args, below, meth, c, D, cA, A, n0, ad0, ex) => ∀ (ad : Nat → Nat) (H : Heap) (locs : List Loc) (ls : Array Slot), n0 ≤ gN S → AG n0 ad ad0 → MM D vwCl cA ad A S H → va_S A s.heap H locs → lv_has ls nL (lv.map (fun q => (q.1, tv ad q.2)) ++ ex) → (∀ q ∈ lv, vok (gN S) q.2) → (∀ v ∈ st, vok (gN S) v) → W p l e R s m args below meth c H locs ce sl Q (F0 m pc ls (st.map (tv ad)))
def CX (C : cT) (cc : ByteArray) (nL : Nat) (y : MethodName) (rm : Room) : Prop :=
  match C with
  | (p, l, e, R, s, m, args, below, meth, c, D, cA, A, n0, ad0, ex) => p.tables.exec = Jvm.exec ∧ c.code = cc ∧ c.maxLocals = nL ∧ s.vm.findClass y.cls = some m.cls ∧ (∀ w ∈ wt, w.before args s = true) ∧ va_K D vwCl (tyA cA) s ∧ (∀ q, s.heap.size ≤ q → A q) ∧ EE A s s.heap ∧ NN s ∧ meth.locks = false ∧ l.stackTraces = false ∧ R = rm ∧ meth.name = y.name ∧ (∀ q ∈ ex, q.1 = 0 ∧ q.2.category = 1) ∧ SK (kz ad0) A s s.heap
variable {C : cT} {cc : ByteArray} {nL : Nat} {y : MethodName} {rm : Room} {Q : State → Prop} {ce sl : Nat} {S : mS} {pc : Nat} {lv : List (Nat × Value)} {st : List Value}

theorem x_iadd (hC : CX C cc nL y rm) {a b : Int32} (hd : decode cc pc = .ok (.iadd, 1)) (k : XX C nL Q ce sl S (pc + 1) lv (.int (a + b) :: st)) : XX C nL Q ce sl S pc lv (.int b :: .int a :: st) := by
  obtain ⟨p, l, e, R, s, m, args, below, meth, c, D, cA, A, n0, ad0, ex⟩ := C
  intro ad H locs ls h0 ha hM hS hl hlo hso
  exact lv_iadd hC.1 hC.2.1 hd (k ad H locs ls h0 ha hM hS hl hlo (sok_c trivial (sok_t (sok_t hso))))
theorem x_isub (hC : CX C cc nL y rm) {a b : Int32} (hd : decode cc pc = .ok (.isub, 1)) (k : XX C nL Q ce sl S (pc + 1) lv (.int (a - b) :: st)) : XX C nL Q ce sl S pc lv (.int b :: .int a :: st) := by
  obtain ⟨p, l, e, R, s, m, args, below, meth, c, D, cA, A, n0, ad0, ex⟩ := C
  intro ad H locs ls h0 ha hM hS hl hlo hso
  exact lv_isub hC.1 hC.2.1 hd (k ad H locs ls h0 ha hM hS hl hlo (sok_c trivial (sok_t (sok_t hso))))
theorem x_imul (hC : CX C cc nL y rm) {a b : Int32} (hd : decode cc pc = .ok (.imul, 1)) (k : XX C nL Q ce sl S (pc + 1) lv (.int (a * b) :: st)) : XX C nL Q ce sl S pc lv (.int b :: .int a :: st) := by
  obtain ⟨p, l, e, R, s, m, args, below, meth, c, D, cA, A, n0, ad0, ex⟩ := C
  intro ad H locs ls h0 ha hM hS hl hlo hso
  exact lv_imul hC.1 hC.2.1 hd (k ad H locs ls h0 ha hM hS hl hlo (sok_c trivial (sok_t (sok_t hso))))
theorem x_iand (hC : CX C cc nL y rm) {a b : Int32} (hd : decode cc pc = .ok (.iand, 1)) (k : XX C nL Q ce sl S (pc + 1) lv (.int (a &&& b) :: st)) : XX C nL Q ce sl S pc lv (.int b :: .int a :: st) := by
  obtain ⟨p, l, e, R, s, m, args, below, meth, c, D, cA, A, n0, ad0, ex⟩ := C
  intro ad H locs ls h0 ha hM hS hl hlo hso
  exact lv_iand hC.1 hC.2.1 hd (k ad H locs ls h0 ha hM hS hl hlo (sok_c trivial (sok_t (sok_t hso))))
theorem x_ior (hC : CX C cc nL y rm) {a b : Int32} (hd : decode cc pc = .ok (.ior, 1)) (k : XX C nL Q ce sl S (pc + 1) lv (.int (a ||| b) :: st)) : XX C nL Q ce sl S pc lv (.int b :: .int a :: st) := by
  obtain ⟨p, l, e, R, s, m, args, below, meth, c, D, cA, A, n0, ad0, ex⟩ := C
  intro ad H locs ls h0 ha hM hS hl hlo hso
  exact lv_ior hC.1 hC.2.1 hd (k ad H locs ls h0 ha hM hS hl hlo (sok_c trivial (sok_t (sok_t hso))))
theorem x_ixor (hC : CX C cc nL y rm) {a b : Int32} (hd : decode cc pc = .ok (.ixor, 1)) (k : XX C nL Q ce sl S (pc + 1) lv (.int (a ^^^ b) :: st)) : XX C nL Q ce sl S pc lv (.int b :: .int a :: st) := by
  obtain ⟨p, l, e, R, s, m, args, below, meth, c, D, cA, A, n0, ad0, ex⟩ := C
  intro ad H locs ls h0 ha hM hS hl hlo hso
  exact lv_ixor hC.1 hC.2.1 hd (k ad H locs ls h0 ha hM hS hl hlo (sok_c trivial (sok_t (sok_t hso))))
theorem x_ishl (hC : CX C cc nL y rm) {a b : Int32} (hd : decode cc pc = .ok (.ishl, 1)) (k : XX C nL Q ce sl S (pc + 1) lv (.int (a <<< (b &&& 31)) :: st)) : XX C nL Q ce sl S pc lv (.int b :: .int a :: st) := by
  obtain ⟨p, l, e, R, s, m, args, below, meth, c, D, cA, A, n0, ad0, ex⟩ := C
  intro ad H locs ls h0 ha hM hS hl hlo hso
  exact lv_ishl hC.1 hC.2.1 hd (k ad H locs ls h0 ha hM hS hl hlo (sok_c trivial (sok_t (sok_t hso))))
theorem x_ishr (hC : CX C cc nL y rm) {a b : Int32} (hd : decode cc pc = .ok (.ishr, 1)) (k : XX C nL Q ce sl S (pc + 1) lv (.int (a >>> (b &&& 31)) :: st)) : XX C nL Q ce sl S pc lv (.int b :: .int a :: st) := by
  obtain ⟨p, l, e, R, s, m, args, below, meth, c, D, cA, A, n0, ad0, ex⟩ := C
  intro ad H locs ls h0 ha hM hS hl hlo hso
  exact lv_ishr hC.1 hC.2.1 hd (k ad H locs ls h0 ha hM hS hl hlo (sok_c trivial (sok_t (sok_t hso))))
theorem x_idiv (hC : CX C cc nL y rm) {a b : Int32} (hd : decode cc pc = .ok (.idiv, 1)) (hn : ¬ b = 0) (k : XX C nL Q ce sl S (pc + 1) lv (.int (a / b) :: st)) : XX C nL Q ce sl S pc lv (.int b :: .int a :: st) := by
  obtain ⟨p, l, e, R, s, m, args, below, meth, c, D, cA, A, n0, ad0, ex⟩ := C
  intro ad H locs ls h0 ha hM hS hl hlo hso
  exact lv_idiv hC.1 hC.2.1 hd hn (k ad H locs ls h0 ha hM hS hl hlo (sok_c trivial (sok_t (sok_t hso))))
theorem x_irem (hC : CX C cc nL y rm) {a b : Int32} (hd : decode cc pc = .ok (.irem, 1)) (hn : ¬ b = 0) (k : XX C nL Q ce sl S (pc + 1) lv (.int (a - a / b * b) :: st)) : XX C nL Q ce sl S pc lv (.int b :: .int a :: st) := by
  obtain ⟨p, l, e, R, s, m, args, below, meth, c, D, cA, A, n0, ad0, ex⟩ := C
  intro ad H locs ls h0 ha hM hS hl hlo hso
  exact lv_irem hC.1 hC.2.1 hd hn (k ad H locs ls h0 ha hM hS hl hlo (sok_c trivial (sok_t (sok_t hso))))
theorem x_ineg (hC : CX C cc nL y rm) {a : Int32} (hd : decode cc pc = .ok (.ineg, 1)) (k : XX C nL Q ce sl S (pc + 1) lv (.int (-a) :: st)) : XX C nL Q ce sl S pc lv (.int a :: st) := by
  obtain ⟨p, l, e, R, s, m, args, below, meth, c, D, cA, A, n0, ad0, ex⟩ := C
  intro ad H locs ls h0 ha hM hS hl hlo hso
  exact lv_ineg hC.1 hC.2.1 hd (k ad H locs ls h0 ha hM hS hl hlo (sok_c trivial (sok_t hso)))
theorem x_ladd (hC : CX C cc nL y rm) {a b : Int64} (hd : decode cc pc = .ok (.ladd, 1)) (k : XX C nL Q ce sl S (pc + 1) lv (.long (a + b) :: st)) : XX C nL Q ce sl S pc lv (.long b :: .long a :: st) := by
  obtain ⟨p, l, e, R, s, m, args, below, meth, c, D, cA, A, n0, ad0, ex⟩ := C
  intro ad H locs ls h0 ha hM hS hl hlo hso
  exact lv_ladd hC.1 hC.2.1 hd (k ad H locs ls h0 ha hM hS hl hlo (sok_c trivial (sok_t (sok_t hso))))
theorem x_lsub (hC : CX C cc nL y rm) {a b : Int64} (hd : decode cc pc = .ok (.lsub, 1)) (k : XX C nL Q ce sl S (pc + 1) lv (.long (a - b) :: st)) : XX C nL Q ce sl S pc lv (.long b :: .long a :: st) := by
  obtain ⟨p, l, e, R, s, m, args, below, meth, c, D, cA, A, n0, ad0, ex⟩ := C
  intro ad H locs ls h0 ha hM hS hl hlo hso
  exact lv_lsub hC.1 hC.2.1 hd (k ad H locs ls h0 ha hM hS hl hlo (sok_c trivial (sok_t (sok_t hso))))
theorem x_lmul (hC : CX C cc nL y rm) {a b : Int64} (hd : decode cc pc = .ok (.lmul, 1)) (k : XX C nL Q ce sl S (pc + 1) lv (.long (a * b) :: st)) : XX C nL Q ce sl S pc lv (.long b :: .long a :: st) := by
  obtain ⟨p, l, e, R, s, m, args, below, meth, c, D, cA, A, n0, ad0, ex⟩ := C
  intro ad H locs ls h0 ha hM hS hl hlo hso
  exact lv_lmul hC.1 hC.2.1 hd (k ad H locs ls h0 ha hM hS hl hlo (sok_c trivial (sok_t (sok_t hso))))
theorem x_ldiv (hC : CX C cc nL y rm) {a b : Int64} (hd : decode cc pc = .ok (.ldiv, 1)) (hn : ¬ b = 0) (k : XX C nL Q ce sl S (pc + 1) lv (.long (a / b) :: st)) : XX C nL Q ce sl S pc lv (.long b :: .long a :: st) := by
  obtain ⟨p, l, e, R, s, m, args, below, meth, c, D, cA, A, n0, ad0, ex⟩ := C
  intro ad H locs ls h0 ha hM hS hl hlo hso
  exact lv_ldiv hC.1 hC.2.1 hd hn (k ad H locs ls h0 ha hM hS hl hlo (sok_c trivial (sok_t (sok_t hso))))
theorem x_lrem (hC : CX C cc nL y rm) {a b : Int64} (hd : decode cc pc = .ok (.lrem, 1)) (hn : ¬ b = 0) (k : XX C nL Q ce sl S (pc + 1) lv (.long (a - a / b * b) :: st)) : XX C nL Q ce sl S pc lv (.long b :: .long a :: st) := by
  obtain ⟨p, l, e, R, s, m, args, below, meth, c, D, cA, A, n0, ad0, ex⟩ := C
  intro ad H locs ls h0 ha hM hS hl hlo hso
  exact lv_lrem hC.1 hC.2.1 hd hn (k ad H locs ls h0 ha hM hS hl hlo (sok_c trivial (sok_t (sok_t hso))))
theorem x_lneg (hC : CX C cc nL y rm) {a : Int64} (hd : decode cc pc = .ok (.lneg, 1)) (k : XX C nL Q ce sl S (pc + 1) lv (.long (-a) :: st)) : XX C nL Q ce sl S pc lv (.long a :: st) := by
  obtain ⟨p, l, e, R, s, m, args, below, meth, c, D, cA, A, n0, ad0, ex⟩ := C
  intro ad H locs ls h0 ha hM hS hl hlo hso
  exact lv_lneg hC.1 hC.2.1 hd (k ad H locs ls h0 ha hM hS hl hlo (sok_c trivial (sok_t hso)))
theorem x_i2l (hC : CX C cc nL y rm) {a : Int32} (hd : decode cc pc = .ok (.i2l, 1)) (k : XX C nL Q ce sl S (pc + 1) lv (.long a.toInt64 :: st)) : XX C nL Q ce sl S pc lv (.int a :: st) := by
  obtain ⟨p, l, e, R, s, m, args, below, meth, c, D, cA, A, n0, ad0, ex⟩ := C
  intro ad H locs ls h0 ha hM hS hl hlo hso
  exact lv_i2l hC.1 hC.2.1 hd rfl (k ad H locs ls h0 ha hM hS hl hlo (sok_c trivial (sok_t hso)))
theorem x_l2i (hC : CX C cc nL y rm) {a : Int64} (hd : decode cc pc = .ok (.l2i, 1)) (k : XX C nL Q ce sl S (pc + 1) lv (.int a.toInt32 :: st)) : XX C nL Q ce sl S pc lv (.long a :: st) := by
  obtain ⟨p, l, e, R, s, m, args, below, meth, c, D, cA, A, n0, ad0, ex⟩ := C
  intro ad H locs ls h0 ha hM hS hl hlo hso
  exact lv_l2i hC.1 hC.2.1 hd rfl (k ad H locs ls h0 ha hM hS hl hlo (sok_c trivial (sok_t hso)))
theorem x_i2c (hC : CX C cc nL y rm) {a : Int32} (hd : decode cc pc = .ok (.i2c, 1)) (k : XX C nL Q ce sl S (pc + 1) lv (.int (a.toUInt32 % 65536).toInt32 :: st)) : XX C nL Q ce sl S pc lv (.int a :: st) := by
  obtain ⟨p, l, e, R, s, m, args, below, meth, c, D, cA, A, n0, ad0, ex⟩ := C
  intro ad H locs ls h0 ha hM hS hl hlo hso
  exact lv_i2c hC.1 hC.2.1 hd rfl (k ad H locs ls h0 ha hM hS hl hlo (sok_c trivial (sok_t hso)))
theorem x_lshr (hC : CX C cc nL y rm) {a : Int64} {b : Int32} (hd : decode cc pc = .ok (.lshr, 1)) (k : XX C nL Q ce sl S (pc + 1) lv (.long (a >>> (b.toInt64 &&& 63)) :: st)) : XX C nL Q ce sl S pc lv (.int b :: .long a :: st) := by
  obtain ⟨p, l, e, R, s, m, args, below, meth, c, D, cA, A, n0, ad0, ex⟩ := C
  intro ad H locs ls h0 ha hM hS hl hlo hso
  exact lv_lshr hC.1 hC.2.1 hd rfl (k ad H locs ls h0 ha hM hS hl hlo (sok_c trivial (sok_t (sok_t hso))))
theorem x_iconst (hC : CX C cc nL y rm) {n : Int} {v : Int32} (hd : decode cc pc = .ok (.iconst n, 1)) (hv : Int32.ofInt n = v) (k : XX C nL Q ce sl S (pc + 1) lv (.int v :: st)) : XX C nL Q ce sl S pc lv (st) := by
  obtain ⟨p, l, e, R, s, m, args, below, meth, c, D, cA, A, n0, ad0, ex⟩ := C
  intro ad H locs ls h0 ha hM hS hl hlo hso
  exact lv_iconst hC.1 hC.2.1 hd hv (k ad H locs ls h0 ha hM hS hl hlo (sok_c trivial hso))
theorem x_bipush (hC : CX C cc nL y rm) {n : Int} {v : Int32} (hd : decode cc pc = .ok (.bipush n, 2)) (hv : (Int8.ofInt n).toInt32 = v) (k : XX C nL Q ce sl S (pc + 2) lv (.int v :: st)) : XX C nL Q ce sl S pc lv (st) := by
  obtain ⟨p, l, e, R, s, m, args, below, meth, c, D, cA, A, n0, ad0, ex⟩ := C
  intro ad H locs ls h0 ha hM hS hl hlo hso
  exact lv_bipush hC.1 hC.2.1 hd hv (k ad H locs ls h0 ha hM hS hl hlo (sok_c trivial hso))
theorem x_sipush (hC : CX C cc nL y rm) {n : Int} {v : Int32} (hd : decode cc pc = .ok (.sipush n, 3)) (hv : (Int16.ofInt n).toInt32 = v) (k : XX C nL Q ce sl S (pc + 3) lv (.int v :: st)) : XX C nL Q ce sl S pc lv (st) := by
  obtain ⟨p, l, e, R, s, m, args, below, meth, c, D, cA, A, n0, ad0, ex⟩ := C
  intro ad H locs ls h0 ha hM hS hl hlo hso
  exact lv_sipush hC.1 hC.2.1 hd hv (k ad H locs ls h0 ha hM hS hl hlo (sok_c trivial hso))
theorem x_lconst (hC : CX C cc nL y rm) {n : Fin 2} {v : Int64} (hd : decode cc pc = .ok (.lconst n, 1)) (hv : Int64.ofNat (n : Nat) = v) (k : XX C nL Q ce sl S (pc + 1) lv (.long v :: st)) : XX C nL Q ce sl S pc lv (st) := by
  obtain ⟨p, l, e, R, s, m, args, below, meth, c, D, cA, A, n0, ad0, ex⟩ := C
  intro ad H locs ls h0 ha hM hS hl hlo hso
  exact lv_lconst hC.1 hC.2.1 hd hv (k ad H locs ls h0 ha hM hS hl hlo (sok_c trivial hso))
theorem x_fconst0 (hC : CX C cc nL y rm) (hd : decode cc pc = .ok (.fconst 0, 1)) (k : XX C nL Q ce sl S (pc + 1) lv (.float FP.fconst0 :: st)) : XX C nL Q ce sl S pc lv (st) := by
  obtain ⟨p, l, e, R, s, m, args, below, meth, c, D, cA, A, n0, ad0, ex⟩ := C
  intro ad H locs ls h0 ha hM hS hl hlo hso
  exact lv_fconst0 hC.1 hC.2.1 hd (k ad H locs ls h0 ha hM hS hl hlo (sok_c trivial hso))
theorem x_dconst0 (hC : CX C cc nL y rm) (hd : decode cc pc = .ok (.dconst 0, 1)) (k : XX C nL Q ce sl S (pc + 1) lv (.double FP.dconst0 :: st)) : XX C nL Q ce sl S pc lv (st) := by
  obtain ⟨p, l, e, R, s, m, args, below, meth, c, D, cA, A, n0, ad0, ex⟩ := C
  intro ad H locs ls h0 ha hM hS hl hlo hso
  exact lv_dconst0 hC.1 hC.2.1 hd (k ad H locs ls h0 ha hM hS hl hlo (sok_c trivial hso))
theorem x_null (hC : CX C cc nL y rm) (hd : decode cc pc = .ok (.aconst_null, 1)) (k : XX C nL Q ce sl S (pc + 1) lv (.ref 0 :: st)) : XX C nL Q ce sl S pc lv (st) := by
  obtain ⟨p, l, e, R, s, m, args, below, meth, c, D, cA, A, n0, ad0, ex⟩ := C
  intro ad H locs ls h0 ha hM hS hl hlo hso
  exact lv_null hC.1 hC.2.1 hd (k ad H locs ls h0 ha hM hS hl hlo (sok_c (Or.inl (Nat.zero_le _)) hso))
theorem x_pop (hC : CX C cc nL y rm) {v : Value} (hd : decode cc pc = .ok (.pop, 1)) (hc : v.category = 1) (k : XX C nL Q ce sl S (pc + 1) lv (st)) : XX C nL Q ce sl S pc lv (v :: st) := by
  obtain ⟨p, l, e, R, s, m, args, below, meth, c, D, cA, A, n0, ad0, ex⟩ := C
  intro ad H locs ls h0 ha hM hS hl hlo hso
  exact lv_pop hC.1 hC.2.1 hd (by rw [tv_cat]; exact hc) (k ad H locs ls h0 ha hM hS hl hlo (sok_t hso))
theorem x_pop2 (hC : CX C cc nL y rm) {v : Value} (hd : decode cc pc = .ok (.pop2, 1)) (hc : v.category = 2) (k : XX C nL Q ce sl S (pc + 1) lv (st)) : XX C nL Q ce sl S pc lv (v :: st) := by
  obtain ⟨p, l, e, R, s, m, args, below, meth, c, D, cA, A, n0, ad0, ex⟩ := C
  intro ad H locs ls h0 ha hM hS hl hlo hso
  exact lv_pop2_2 hC.1 hC.2.1 hd (by rw [tv_cat]; exact hc) (k ad H locs ls h0 ha hM hS hl hlo (sok_t hso))
theorem x_dup (hC : CX C cc nL y rm) {v : Value} (hd : decode cc pc = .ok (.dup, 1)) (hc : v.category = 1) (k : XX C nL Q ce sl S (pc + 1) lv (v :: v :: st)) : XX C nL Q ce sl S pc lv (v :: st) := by
  obtain ⟨p, l, e, R, s, m, args, below, meth, c, D, cA, A, n0, ad0, ex⟩ := C
  intro ad H locs ls h0 ha hM hS hl hlo hso
  exact lv_dup hC.1 hC.2.1 hd (by rw [tv_cat]; exact hc) (k ad H locs ls h0 ha hM hS hl hlo (sok_c (sok_h hso) (sok_c (sok_h hso) (sok_t hso))))
theorem x_dup_x1 (hC : CX C cc nL y rm) {v u : Value} (hd : decode cc pc = .ok (.dup_x1, 1)) (hc : v.category = 1) (hc2 : u.category = 1) (k : XX C nL Q ce sl S (pc + 1) lv (v :: u :: v :: st)) : XX C nL Q ce sl S pc lv (v :: u :: st) := by
  obtain ⟨p, l, e, R, s, m, args, below, meth, c, D, cA, A, n0, ad0, ex⟩ := C
  intro ad H locs ls h0 ha hM hS hl hlo hso
  exact lv_dup_x1 hC.1 hC.2.1 hd (by rw [tv_cat]; exact hc) (by rw [tv_cat]; exact hc2) (k ad H locs ls h0 ha hM hS hl hlo (sok_c (sok_h hso) (sok_c (sok_h (sok_t hso)) (sok_c (sok_h hso) (sok_t (sok_t hso))))))
theorem x_dup2 (hC : CX C cc nL y rm) {v u : Value} (hd : decode cc pc = .ok (.dup2, 1)) (hc : v.category = 1) (hc2 : u.category = 1) (k : XX C nL Q ce sl S (pc + 1) lv (v :: u :: v :: u :: st)) : XX C nL Q ce sl S pc lv (v :: u :: st) := by
  obtain ⟨p, l, e, R, s, m, args, below, meth, c, D, cA, A, n0, ad0, ex⟩ := C
  intro ad H locs ls h0 ha hM hS hl hlo hso
  exact lv_dup2_11 hC.1 hC.2.1 hd (by rw [tv_cat]; exact hc) (by rw [tv_cat]; exact hc2) (k ad H locs ls h0 ha hM hS hl hlo (sok_c (sok_h hso) (sok_c (sok_h (sok_t hso)) (sok_c (sok_h hso) (sok_c (sok_h (sok_t hso)) (sok_t (sok_t hso)))))))
theorem x_iload_n (hC : CX C cc nL y rm) {q : Fin 4} {i : Nat} {v : Int32} (j : Nat) (hd : decode cc pc = .ok (.iload_n q, 1)) (hi : (q : Nat) = i) (hg : lv[j]? = some (i, .int v)) (k : XX C nL Q ce sl S (pc + 1) lv (.int v :: st)) : XX C nL Q ce sl S pc lv (st) := by
  obtain ⟨p, l, e, R, s, m, args, below, meth, c, D, cA, A, n0, ad0, ex⟩ := C
  intro ad H locs ls h0 ha hM hS hl hlo hso
  exact lv_iload_n hC.1 hC.2.1 hd hi (lv_at hl j (tvl_at hg)) (k ad H locs ls h0 ha hM hS hl hlo (sok_c trivial hso))
theorem x_iload (hC : CX C cc nL y rm) {i : Nat} {v : Int32} (j : Nat) (hd : decode cc pc = .ok (.iload i, 2)) (hg : lv[j]? = some (i, .int v)) (k : XX C nL Q ce sl S (pc + 2) lv (.int v :: st)) : XX C nL Q ce sl S pc lv (st) := by
  obtain ⟨p, l, e, R, s, m, args, below, meth, c, D, cA, A, n0, ad0, ex⟩ := C
  intro ad H locs ls h0 ha hM hS hl hlo hso
  exact lv_iload hC.1 hC.2.1 hd (lv_at hl j (tvl_at hg)) (k ad H locs ls h0 ha hM hS hl hlo (sok_c trivial hso))
theorem x_lload_n (hC : CX C cc nL y rm) {q : Fin 4} {i : Nat} {v : Int64} (j : Nat) (hd : decode cc pc = .ok (.lload_n q, 1)) (hi : (q : Nat) = i) (hg : lv[j]? = some (i, .long v)) (k : XX C nL Q ce sl S (pc + 1) lv (.long v :: st)) : XX C nL Q ce sl S pc lv (st) := by
  obtain ⟨p, l, e, R, s, m, args, below, meth, c, D, cA, A, n0, ad0, ex⟩ := C
  intro ad H locs ls h0 ha hM hS hl hlo hso
  exact lv_lload_n hC.1 hC.2.1 hd hi (lv_at hl j (tvl_at hg)) (k ad H locs ls h0 ha hM hS hl hlo (sok_c trivial hso))
theorem x_lload (hC : CX C cc nL y rm) {i : Nat} {v : Int64} (j : Nat) (hd : decode cc pc = .ok (.lload i, 2)) (hg : lv[j]? = some (i, .long v)) (k : XX C nL Q ce sl S (pc + 2) lv (.long v :: st)) : XX C nL Q ce sl S pc lv (st) := by
  obtain ⟨p, l, e, R, s, m, args, below, meth, c, D, cA, A, n0, ad0, ex⟩ := C
  intro ad H locs ls h0 ha hM hS hl hlo hso
  exact lv_lload hC.1 hC.2.1 hd (lv_at hl j (tvl_at hg)) (k ad H locs ls h0 ha hM hS hl hlo (sok_c trivial hso))
theorem x_dload_n (hC : CX C cc nL y rm) {q : Fin 4} {i : Nat} {v : UInt64} (j : Nat) (hd : decode cc pc = .ok (.dload_n q, 1)) (hi : (q : Nat) = i) (hg : lv[j]? = some (i, .double v)) (k : XX C nL Q ce sl S (pc + 1) lv (.double v :: st)) : XX C nL Q ce sl S pc lv (st) := by
  obtain ⟨p, l, e, R, s, m, args, below, meth, c, D, cA, A, n0, ad0, ex⟩ := C
  intro ad H locs ls h0 ha hM hS hl hlo hso
  exact lv_dload_n hC.1 hC.2.1 hd hi (lv_at hl j (tvl_at hg)) (k ad H locs ls h0 ha hM hS hl hlo (sok_c trivial hso))
theorem x_dload (hC : CX C cc nL y rm) {i : Nat} {v : UInt64} (j : Nat) (hd : decode cc pc = .ok (.dload i, 2)) (hg : lv[j]? = some (i, .double v)) (k : XX C nL Q ce sl S (pc + 2) lv (.double v :: st)) : XX C nL Q ce sl S pc lv (st) := by
  obtain ⟨p, l, e, R, s, m, args, below, meth, c, D, cA, A, n0, ad0, ex⟩ := C
  intro ad H locs ls h0 ha hM hS hl hlo hso
  exact lv_dload hC.1 hC.2.1 hd (lv_at hl j (tvl_at hg)) (k ad H locs ls h0 ha hM hS hl hlo (sok_c trivial hso))
theorem x_fload_n (hC : CX C cc nL y rm) {q : Fin 4} {i : Nat} {v : UInt32} (j : Nat) (hd : decode cc pc = .ok (.fload_n q, 1)) (hi : (q : Nat) = i) (hg : lv[j]? = some (i, .float v)) (k : XX C nL Q ce sl S (pc + 1) lv (.float v :: st)) : XX C nL Q ce sl S pc lv (st) := by
  obtain ⟨p, l, e, R, s, m, args, below, meth, c, D, cA, A, n0, ad0, ex⟩ := C
  intro ad H locs ls h0 ha hM hS hl hlo hso
  exact lv_fload_n hC.1 hC.2.1 hd hi (lv_at hl j (tvl_at hg)) (k ad H locs ls h0 ha hM hS hl hlo (sok_c trivial hso))
theorem x_fload (hC : CX C cc nL y rm) {i : Nat} {v : UInt32} (j : Nat) (hd : decode cc pc = .ok (.fload i, 2)) (hg : lv[j]? = some (i, .float v)) (k : XX C nL Q ce sl S (pc + 2) lv (.float v :: st)) : XX C nL Q ce sl S pc lv (st) := by
  obtain ⟨p, l, e, R, s, m, args, below, meth, c, D, cA, A, n0, ad0, ex⟩ := C
  intro ad H locs ls h0 ha hM hS hl hlo hso
  exact lv_fload hC.1 hC.2.1 hd (lv_at hl j (tvl_at hg)) (k ad H locs ls h0 ha hM hS hl hlo (sok_c trivial hso))
theorem x_aload_n (hC : CX C cc nL y rm) {q : Fin 4} {i r : Nat} (j : Nat) (hd : decode cc pc = .ok (.aload_n q, 1)) (hi : (q : Nat) = i) (hg : lv[j]? = some (i, .ref r)) (k : XX C nL Q ce sl S (pc + 1) lv (.ref r :: st)) : XX C nL Q ce sl S pc lv st := by
  obtain ⟨p, l, e, R, s, m, args, below, meth, c, D, cA, A, n0, ad0, ex⟩ := C
  intro ad H locs ls h0 ha hM hS hl hlo hso
  have hk := k ad H locs ls h0 ha hM hS hl hlo (sok_c (lok_at hg hlo) hso)
  have hq := lv_at hl j (tvl_at (ad := ad) hg)
  by_cases hr : r = 0
  · subst hr
    exact lv_aload_nN hC.1 hC.2.1 hd hi hq hk
  · have er : tv ad (.ref r) = .ref (ad r) := rv_pos hr
    rw [er] at hq
    have hk' : W p l e R s m args below meth c H locs ce sl Q (F0 m (pc + 1) ls (.ref (ad r) :: st.map (tv ad))) := by
      rw [← er]; exact hk
    exact lv_aload_n hC.1 hC.2.1 hd hi hq hk'
theorem x_aload (hC : CX C cc nL y rm) {i r : Nat} (j : Nat) (hd : decode cc pc = .ok (.aload i, 2)) (hg : lv[j]? = some (i, .ref r)) (k : XX C nL Q ce sl S (pc + 2) lv (.ref r :: st)) : XX C nL Q ce sl S pc lv st := by
  obtain ⟨p, l, e, R, s, m, args, below, meth, c, D, cA, A, n0, ad0, ex⟩ := C
  intro ad H locs ls h0 ha hM hS hl hlo hso
  have hk := k ad H locs ls h0 ha hM hS hl hlo (sok_c (lok_at hg hlo) hso)
  have hq := lv_at hl j (tvl_at (ad := ad) hg)
  by_cases hr : r = 0
  · subst hr
    exact lv_aloadN hC.1 hC.2.1 hd hq hk
  · have er : tv ad (.ref r) = .ref (ad r) := rv_pos hr
    rw [er] at hq
    have hk' : W p l e R s m args below meth c H locs ce sl Q (F0 m (pc + 2) ls (.ref (ad r) :: st.map (tv ad))) := by
      rw [← er]; exact hk
    exact lv_aload hC.1 hC.2.1 hd hq hk'
theorem x_istore_n (hC : CX C cc nL y rm) {u : Fin 4} {i : Nat} {v : Int32} {lv' : List (Nat × Value)} (hd : decode cc pc = .ok (.istore_n u, 1)) (hi : (u : Nat) = i) (h1 : 1 ≤ i) (hn : i < nL) (hf : (i, Value.int v) :: lv.filter (fun q => !(q.1 == i) && !(q.1 + 1 == i && q.2.category == 2)) = lv') (k : XX C nL Q ce sl S (pc + 1) lv' st) : XX C nL Q ce sl S pc lv (.int v :: st) := by
  obtain ⟨p, l, e, R, s, m, args, below, meth, c, D, cA, A, n0, ad0, ex⟩ := C
  intro ad H locs ls h0 ha hM hS hl hlo hso
  exact lv_istore_n hC.1 hC.2.1 hd hi hl hn (tvl_st hC.2.2.2.2.2.2.2.2.2.2.2.2.2.1 h1 hf) (fun ls' hl' => k ad H locs ls' h0 ha hM hS hl' (lok_st hf hlo trivial) (sok_t hso))
theorem x_istore (hC : CX C cc nL y rm) {i : Nat} {v : Int32} {lv' : List (Nat × Value)} (hd : decode cc pc = .ok (.istore i, 2)) (h1 : 1 ≤ i) (hn : i < nL) (hf : (i, Value.int v) :: lv.filter (fun q => !(q.1 == i) && !(q.1 + 1 == i && q.2.category == 2)) = lv') (k : XX C nL Q ce sl S (pc + 2) lv' st) : XX C nL Q ce sl S pc lv (.int v :: st) := by
  obtain ⟨p, l, e, R, s, m, args, below, meth, c, D, cA, A, n0, ad0, ex⟩ := C
  intro ad H locs ls h0 ha hM hS hl hlo hso
  exact lv_istore hC.1 hC.2.1 hd hl hn (tvl_st hC.2.2.2.2.2.2.2.2.2.2.2.2.2.1 h1 hf) (fun ls' hl' => k ad H locs ls' h0 ha hM hS hl' (lok_st hf hlo trivial) (sok_t hso))
theorem x_fstore_n (hC : CX C cc nL y rm) {u : Fin 4} {i : Nat} {v : UInt32} {lv' : List (Nat × Value)} (hd : decode cc pc = .ok (.fstore_n u, 1)) (hi : (u : Nat) = i) (h1 : 1 ≤ i) (hn : i < nL) (hf : (i, Value.float v) :: lv.filter (fun q => !(q.1 == i) && !(q.1 + 1 == i && q.2.category == 2)) = lv') (k : XX C nL Q ce sl S (pc + 1) lv' st) : XX C nL Q ce sl S pc lv (.float v :: st) := by
  obtain ⟨p, l, e, R, s, m, args, below, meth, c, D, cA, A, n0, ad0, ex⟩ := C
  intro ad H locs ls h0 ha hM hS hl hlo hso
  exact lv_fstore_n hC.1 hC.2.1 hd hi hl hn (tvl_st hC.2.2.2.2.2.2.2.2.2.2.2.2.2.1 h1 hf) (fun ls' hl' => k ad H locs ls' h0 ha hM hS hl' (lok_st hf hlo trivial) (sok_t hso))
theorem x_fstore (hC : CX C cc nL y rm) {i : Nat} {v : UInt32} {lv' : List (Nat × Value)} (hd : decode cc pc = .ok (.fstore i, 2)) (h1 : 1 ≤ i) (hn : i < nL) (hf : (i, Value.float v) :: lv.filter (fun q => !(q.1 == i) && !(q.1 + 1 == i && q.2.category == 2)) = lv') (k : XX C nL Q ce sl S (pc + 2) lv' st) : XX C nL Q ce sl S pc lv (.float v :: st) := by
  obtain ⟨p, l, e, R, s, m, args, below, meth, c, D, cA, A, n0, ad0, ex⟩ := C
  intro ad H locs ls h0 ha hM hS hl hlo hso
  exact lv_fstore hC.1 hC.2.1 hd hl hn (tvl_st hC.2.2.2.2.2.2.2.2.2.2.2.2.2.1 h1 hf) (fun ls' hl' => k ad H locs ls' h0 ha hM hS hl' (lok_st hf hlo trivial) (sok_t hso))
theorem x_lstore_n (hC : CX C cc nL y rm) {u : Fin 4} {i : Nat} {v : Int64} {lv' : List (Nat × Value)} (hd : decode cc pc = .ok (.lstore_n u, 1)) (hi : (u : Nat) = i) (h1 : 1 ≤ i) (hn : i + 1 < nL) (hf : (i, Value.long v) :: lv.filter (fun q => !(q.1 == i) && (!(q.1 == i + 1) && !(q.1 + 1 == i && q.2.category == 2))) = lv') (k : XX C nL Q ce sl S (pc + 1) lv' st) : XX C nL Q ce sl S pc lv (.long v :: st) := by
  obtain ⟨p, l, e, R, s, m, args, below, meth, c, D, cA, A, n0, ad0, ex⟩ := C
  intro ad H locs ls h0 ha hM hS hl hlo hso
  exact lv_lstore_n hC.1 hC.2.1 hd hi hl hn (tvl_st2 hC.2.2.2.2.2.2.2.2.2.2.2.2.2.1 h1 hf) (fun ls' hl' => k ad H locs ls' h0 ha hM hS hl' (lok_st hf hlo trivial) (sok_t hso))
theorem x_lstore (hC : CX C cc nL y rm) {i : Nat} {v : Int64} {lv' : List (Nat × Value)} (hd : decode cc pc = .ok (.lstore i, 2)) (h1 : 1 ≤ i) (hn : i + 1 < nL) (hf : (i, Value.long v) :: lv.filter (fun q => !(q.1 == i) && (!(q.1 == i + 1) && !(q.1 + 1 == i && q.2.category == 2))) = lv') (k : XX C nL Q ce sl S (pc + 2) lv' st) : XX C nL Q ce sl S pc lv (.long v :: st) := by
  obtain ⟨p, l, e, R, s, m, args, below, meth, c, D, cA, A, n0, ad0, ex⟩ := C
  intro ad H locs ls h0 ha hM hS hl hlo hso
  exact lv_lstore hC.1 hC.2.1 hd hl hn (tvl_st2 hC.2.2.2.2.2.2.2.2.2.2.2.2.2.1 h1 hf) (fun ls' hl' => k ad H locs ls' h0 ha hM hS hl' (lok_st hf hlo trivial) (sok_t hso))
theorem x_dstore_n (hC : CX C cc nL y rm) {u : Fin 4} {i : Nat} {v : UInt64} {lv' : List (Nat × Value)} (hd : decode cc pc = .ok (.dstore_n u, 1)) (hi : (u : Nat) = i) (h1 : 1 ≤ i) (hn : i + 1 < nL) (hf : (i, Value.double v) :: lv.filter (fun q => !(q.1 == i) && (!(q.1 == i + 1) && !(q.1 + 1 == i && q.2.category == 2))) = lv') (k : XX C nL Q ce sl S (pc + 1) lv' st) : XX C nL Q ce sl S pc lv (.double v :: st) := by
  obtain ⟨p, l, e, R, s, m, args, below, meth, c, D, cA, A, n0, ad0, ex⟩ := C
  intro ad H locs ls h0 ha hM hS hl hlo hso
  exact lv_dstore_n hC.1 hC.2.1 hd hi hl hn (tvl_st2 hC.2.2.2.2.2.2.2.2.2.2.2.2.2.1 h1 hf) (fun ls' hl' => k ad H locs ls' h0 ha hM hS hl' (lok_st hf hlo trivial) (sok_t hso))
theorem x_dstore (hC : CX C cc nL y rm) {i : Nat} {v : UInt64} {lv' : List (Nat × Value)} (hd : decode cc pc = .ok (.dstore i, 2)) (h1 : 1 ≤ i) (hn : i + 1 < nL) (hf : (i, Value.double v) :: lv.filter (fun q => !(q.1 == i) && (!(q.1 == i + 1) && !(q.1 + 1 == i && q.2.category == 2))) = lv') (k : XX C nL Q ce sl S (pc + 2) lv' st) : XX C nL Q ce sl S pc lv (.double v :: st) := by
  obtain ⟨p, l, e, R, s, m, args, below, meth, c, D, cA, A, n0, ad0, ex⟩ := C
  intro ad H locs ls h0 ha hM hS hl hlo hso
  exact lv_dstore hC.1 hC.2.1 hd hl hn (tvl_st2 hC.2.2.2.2.2.2.2.2.2.2.2.2.2.1 h1 hf) (fun ls' hl' => k ad H locs ls' h0 ha hM hS hl' (lok_st hf hlo trivial) (sok_t hso))
theorem x_astore_n (hC : CX C cc nL y rm) {u : Fin 4} {i r : Nat} {lv' : List (Nat × Value)} (hd : decode cc pc = .ok (.astore_n u, 1)) (hi : (u : Nat) = i) (h1 : 1 ≤ i) (hn : i < nL) (hf : (i, Value.ref r) :: lv.filter (fun q => !(q.1 == i) && !(q.1 + 1 == i && q.2.category == 2)) = lv') (k : XX C nL Q ce sl S (pc + 1) lv' st) : XX C nL Q ce sl S pc lv (.ref r :: st) := by
  obtain ⟨p, l, e, R, s, m, args, below, meth, c, D, cA, A, n0, ad0, ex⟩ := C
  intro ad H locs ls h0 ha hM hS hl hlo hso
  have hk := fun ls' hl' => k ad H locs ls' h0 ha hM hS hl' (lok_st hf hlo (sok_h hso)) (sok_t hso)
  have hf' := tvl_st (ad := ad) hC.2.2.2.2.2.2.2.2.2.2.2.2.2.1 h1 hf
  by_cases hr : r = 0
  · subst hr
    exact lv_astore_nN hC.1 hC.2.1 hd hi hl hn hf' hk
  · have er : tv ad (.ref r) = .ref (ad r) := rv_pos hr
    rw [er] at hf'
    show W p l e R s m args below meth c H locs ce sl Q (F0 m pc ls (tv ad (.ref r) :: st.map (tv ad)))
    rw [er]
    exact lv_astore_n hC.1 hC.2.1 hd hi hl hn hf' hk
theorem x_astore (hC : CX C cc nL y rm) {i r : Nat} {lv' : List (Nat × Value)} (hd : decode cc pc = .ok (.astore i, 2)) (h1 : 1 ≤ i) (hn : i < nL) (hf : (i, Value.ref r) :: lv.filter (fun q => !(q.1 == i) && !(q.1 + 1 == i && q.2.category == 2)) = lv') (k : XX C nL Q ce sl S (pc + 2) lv' st) : XX C nL Q ce sl S pc lv (.ref r :: st) := by
  obtain ⟨p, l, e, R, s, m, args, below, meth, c, D, cA, A, n0, ad0, ex⟩ := C
  intro ad H locs ls h0 ha hM hS hl hlo hso
  have hk := fun ls' hl' => k ad H locs ls' h0 ha hM hS hl' (lok_st hf hlo (sok_h hso)) (sok_t hso)
  have hf' := tvl_st (ad := ad) hC.2.2.2.2.2.2.2.2.2.2.2.2.2.1 h1 hf
  by_cases hr : r = 0
  · subst hr
    exact lv_astoreN hC.1 hC.2.1 hd hl hn hf' hk
  · have er : tv ad (.ref r) = .ref (ad r) := rv_pos hr
    rw [er] at hf'
    show W p l e R s m args below meth c H locs ce sl Q (F0 m pc ls (tv ad (.ref r) :: st.map (tv ad)))
    rw [er]
    exact lv_astore hC.1 hC.2.1 hd hl hn hf' hk
theorem x_iinc (hC : CX C cc nL y rm) {i : Nat} {n : Int} {a v : Int32} {lv' : List (Nat × Value)} (j : Nat) (hd : decode cc pc = .ok (.iinc i n, 3)) (hg : lv[j]? = some (i, .int a)) (hv : a + Int32.ofInt n = v) (h1 : 1 ≤ i) (hn : i < nL) (hf : (i, Value.int v) :: lv.filter (fun q => !(q.1 == i) && !(q.1 + 1 == i && q.2.category == 2)) = lv') (k : XX C nL Q ce sl S (pc + 3) lv' st) : XX C nL Q ce sl S pc lv st := by
  obtain ⟨p, l, e, R, s, m, args, below, meth, c, D, cA, A, n0, ad0, ex⟩ := C
  intro ad H locs ls h0 ha hM hS hl hlo hso
  exact lv_iinc hC.1 hC.2.1 hd hl (tvl_at hg) hv hn (tvl_st hC.2.2.2.2.2.2.2.2.2.2.2.2.2.1 h1 hf) (fun ls' hl' => k ad H locs ls' h0 ha hM hS hl' (lok_st hf hlo trivial) hso)
theorem x_if_eq (hC : CX C cc nL y rm) {x : Int32} {off : Int} (tgt : Nat) (hd : decode cc pc = .ok (.ifCond .eq off, 3)) (ht : (pc : Int) + off = (tgt : Int)) (kt : x = 0 → XX C nL Q ce sl S tgt lv st) (kf : ¬ x = 0 → XX C nL Q ce sl S (pc + 3) lv st) : XX C nL Q ce sl S pc lv (.int x :: st) := by
  obtain ⟨p, l, e, R, s, m, args, below, meth, c, D, cA, A, n0, ad0, ex⟩ := C
  intro ad H locs ls h0 ha hM hS hl hlo hso
  exact lv_if_eq hC.1 hC.2.1 hd ht (fun h => kt h ad H locs ls h0 ha hM hS hl hlo (sok_t hso)) (fun h => kf h ad H locs ls h0 ha hM hS hl hlo (sok_t hso))
theorem x_icmp_eq (hC : CX C cc nL y rm) {x z : Int32} {off : Int} (tgt : Nat) (hd : decode cc pc = .ok (.if_icmp .eq off, 3)) (ht : (pc : Int) + off = (tgt : Int)) (kt : x = z → XX C nL Q ce sl S tgt lv st) (kf : ¬ x = z → XX C nL Q ce sl S (pc + 3) lv st) : XX C nL Q ce sl S pc lv (.int z :: .int x :: st) := by
  obtain ⟨p, l, e, R, s, m, args, below, meth, c, D, cA, A, n0, ad0, ex⟩ := C
  intro ad H locs ls h0 ha hM hS hl hlo hso
  exact lv_icmp_eq hC.1 hC.2.1 hd ht (fun h => kt h ad H locs ls h0 ha hM hS hl hlo (sok_t (sok_t hso))) (fun h => kf h ad H locs ls h0 ha hM hS hl hlo (sok_t (sok_t hso)))
theorem x_if_ne (hC : CX C cc nL y rm) {x : Int32} {off : Int} (tgt : Nat) (hd : decode cc pc = .ok (.ifCond .ne off, 3)) (ht : (pc : Int) + off = (tgt : Int)) (kt : ¬ x = 0 → XX C nL Q ce sl S tgt lv st) (kf : x = 0 → XX C nL Q ce sl S (pc + 3) lv st) : XX C nL Q ce sl S pc lv (.int x :: st) := by
  obtain ⟨p, l, e, R, s, m, args, below, meth, c, D, cA, A, n0, ad0, ex⟩ := C
  intro ad H locs ls h0 ha hM hS hl hlo hso
  exact lv_if_ne hC.1 hC.2.1 hd ht (fun h => kt h ad H locs ls h0 ha hM hS hl hlo (sok_t hso)) (fun h => kf h ad H locs ls h0 ha hM hS hl hlo (sok_t hso))
theorem x_icmp_ne (hC : CX C cc nL y rm) {x z : Int32} {off : Int} (tgt : Nat) (hd : decode cc pc = .ok (.if_icmp .ne off, 3)) (ht : (pc : Int) + off = (tgt : Int)) (kt : ¬ x = z → XX C nL Q ce sl S tgt lv st) (kf : x = z → XX C nL Q ce sl S (pc + 3) lv st) : XX C nL Q ce sl S pc lv (.int z :: .int x :: st) := by
  obtain ⟨p, l, e, R, s, m, args, below, meth, c, D, cA, A, n0, ad0, ex⟩ := C
  intro ad H locs ls h0 ha hM hS hl hlo hso
  exact lv_icmp_ne hC.1 hC.2.1 hd ht (fun h => kt h ad H locs ls h0 ha hM hS hl hlo (sok_t (sok_t hso))) (fun h => kf h ad H locs ls h0 ha hM hS hl hlo (sok_t (sok_t hso)))
theorem x_if_lt (hC : CX C cc nL y rm) {x : Int32} {off : Int} (tgt : Nat) (hd : decode cc pc = .ok (.ifCond .lt off, 3)) (ht : (pc : Int) + off = (tgt : Int)) (kt : x < 0 → XX C nL Q ce sl S tgt lv st) (kf : ¬ x < 0 → XX C nL Q ce sl S (pc + 3) lv st) : XX C nL Q ce sl S pc lv (.int x :: st) := by
  obtain ⟨p, l, e, R, s, m, args, below, meth, c, D, cA, A, n0, ad0, ex⟩ := C
  intro ad H locs ls h0 ha hM hS hl hlo hso
  exact lv_if_lt hC.1 hC.2.1 hd ht (fun h => kt h ad H locs ls h0 ha hM hS hl hlo (sok_t hso)) (fun h => kf h ad H locs ls h0 ha hM hS hl hlo (sok_t hso))
theorem x_icmp_lt (hC : CX C cc nL y rm) {x z : Int32} {off : Int} (tgt : Nat) (hd : decode cc pc = .ok (.if_icmp .lt off, 3)) (ht : (pc : Int) + off = (tgt : Int)) (kt : x < z → XX C nL Q ce sl S tgt lv st) (kf : ¬ x < z → XX C nL Q ce sl S (pc + 3) lv st) : XX C nL Q ce sl S pc lv (.int z :: .int x :: st) := by
  obtain ⟨p, l, e, R, s, m, args, below, meth, c, D, cA, A, n0, ad0, ex⟩ := C
  intro ad H locs ls h0 ha hM hS hl hlo hso
  exact lv_icmp_lt hC.1 hC.2.1 hd ht (fun h => kt h ad H locs ls h0 ha hM hS hl hlo (sok_t (sok_t hso))) (fun h => kf h ad H locs ls h0 ha hM hS hl hlo (sok_t (sok_t hso)))
theorem x_if_ge (hC : CX C cc nL y rm) {x : Int32} {off : Int} (tgt : Nat) (hd : decode cc pc = .ok (.ifCond .ge off, 3)) (ht : (pc : Int) + off = (tgt : Int)) (kt : 0 ≤ x → XX C nL Q ce sl S tgt lv st) (kf : ¬ 0 ≤ x → XX C nL Q ce sl S (pc + 3) lv st) : XX C nL Q ce sl S pc lv (.int x :: st) := by
  obtain ⟨p, l, e, R, s, m, args, below, meth, c, D, cA, A, n0, ad0, ex⟩ := C
  intro ad H locs ls h0 ha hM hS hl hlo hso
  exact lv_if_ge hC.1 hC.2.1 hd ht (fun h => kt h ad H locs ls h0 ha hM hS hl hlo (sok_t hso)) (fun h => kf h ad H locs ls h0 ha hM hS hl hlo (sok_t hso))
theorem x_icmp_ge (hC : CX C cc nL y rm) {x z : Int32} {off : Int} (tgt : Nat) (hd : decode cc pc = .ok (.if_icmp .ge off, 3)) (ht : (pc : Int) + off = (tgt : Int)) (kt : z ≤ x → XX C nL Q ce sl S tgt lv st) (kf : ¬ z ≤ x → XX C nL Q ce sl S (pc + 3) lv st) : XX C nL Q ce sl S pc lv (.int z :: .int x :: st) := by
  obtain ⟨p, l, e, R, s, m, args, below, meth, c, D, cA, A, n0, ad0, ex⟩ := C
  intro ad H locs ls h0 ha hM hS hl hlo hso
  exact lv_icmp_ge hC.1 hC.2.1 hd ht (fun h => kt h ad H locs ls h0 ha hM hS hl hlo (sok_t (sok_t hso))) (fun h => kf h ad H locs ls h0 ha hM hS hl hlo (sok_t (sok_t hso)))
theorem x_if_gt (hC : CX C cc nL y rm) {x : Int32} {off : Int} (tgt : Nat) (hd : decode cc pc = .ok (.ifCond .gt off, 3)) (ht : (pc : Int) + off = (tgt : Int)) (kt : 0 < x → XX C nL Q ce sl S tgt lv st) (kf : ¬ 0 < x → XX C nL Q ce sl S (pc + 3) lv st) : XX C nL Q ce sl S pc lv (.int x :: st) := by
  obtain ⟨p, l, e, R, s, m, args, below, meth, c, D, cA, A, n0, ad0, ex⟩ := C
  intro ad H locs ls h0 ha hM hS hl hlo hso
  exact lv_if_gt hC.1 hC.2.1 hd ht (fun h => kt h ad H locs ls h0 ha hM hS hl hlo (sok_t hso)) (fun h => kf h ad H locs ls h0 ha hM hS hl hlo (sok_t hso))
theorem x_icmp_gt (hC : CX C cc nL y rm) {x z : Int32} {off : Int} (tgt : Nat) (hd : decode cc pc = .ok (.if_icmp .gt off, 3)) (ht : (pc : Int) + off = (tgt : Int)) (kt : z < x → XX C nL Q ce sl S tgt lv st) (kf : ¬ z < x → XX C nL Q ce sl S (pc + 3) lv st) : XX C nL Q ce sl S pc lv (.int z :: .int x :: st) := by
  obtain ⟨p, l, e, R, s, m, args, below, meth, c, D, cA, A, n0, ad0, ex⟩ := C
  intro ad H locs ls h0 ha hM hS hl hlo hso
  exact lv_icmp_gt hC.1 hC.2.1 hd ht (fun h => kt h ad H locs ls h0 ha hM hS hl hlo (sok_t (sok_t hso))) (fun h => kf h ad H locs ls h0 ha hM hS hl hlo (sok_t (sok_t hso)))
theorem x_if_le (hC : CX C cc nL y rm) {x : Int32} {off : Int} (tgt : Nat) (hd : decode cc pc = .ok (.ifCond .le off, 3)) (ht : (pc : Int) + off = (tgt : Int)) (kt : x ≤ 0 → XX C nL Q ce sl S tgt lv st) (kf : ¬ x ≤ 0 → XX C nL Q ce sl S (pc + 3) lv st) : XX C nL Q ce sl S pc lv (.int x :: st) := by
  obtain ⟨p, l, e, R, s, m, args, below, meth, c, D, cA, A, n0, ad0, ex⟩ := C
  intro ad H locs ls h0 ha hM hS hl hlo hso
  exact lv_if_le hC.1 hC.2.1 hd ht (fun h => kt h ad H locs ls h0 ha hM hS hl hlo (sok_t hso)) (fun h => kf h ad H locs ls h0 ha hM hS hl hlo (sok_t hso))
theorem x_icmp_le (hC : CX C cc nL y rm) {x z : Int32} {off : Int} (tgt : Nat) (hd : decode cc pc = .ok (.if_icmp .le off, 3)) (ht : (pc : Int) + off = (tgt : Int)) (kt : x ≤ z → XX C nL Q ce sl S tgt lv st) (kf : ¬ x ≤ z → XX C nL Q ce sl S (pc + 3) lv st) : XX C nL Q ce sl S pc lv (.int z :: .int x :: st) := by
  obtain ⟨p, l, e, R, s, m, args, below, meth, c, D, cA, A, n0, ad0, ex⟩ := C
  intro ad H locs ls h0 ha hM hS hl hlo hso
  exact lv_icmp_le hC.1 hC.2.1 hd ht (fun h => kt h ad H locs ls h0 ha hM hS hl hlo (sok_t (sok_t hso))) (fun h => kf h ad H locs ls h0 ha hM hS hl hlo (sok_t (sok_t hso)))
theorem x_goto (hC : CX C cc nL y rm) {off : Int} (tgt : Nat) (hd : decode cc pc = .ok (.goto off, 3)) (ht : (pc : Int) + off = (tgt : Int)) (k : XX C nL Q ce sl S tgt lv st) : XX C nL Q ce sl S pc lv st := by
  obtain ⟨p, l, e, R, s, m, args, below, meth, c, D, cA, A, n0, ad0, ex⟩ := C
  intro ad H locs ls h0 ha hM hS hl hlo hso
  exact lv_goto hC.1 hC.2.1 hd ht (k ad H locs ls h0 ha hM hS hl hlo hso)
theorem x_ifnull (hC : CX C cc nL y rm) {r : Nat} {off : Int} (tgt : Nat) (hd : decode cc pc = .ok (.ifnull off, 3)) (ht : (pc : Int) + off = (tgt : Int)) (kt : r = 0 → XX C nL Q ce sl S tgt lv st) (kf : ¬ r = 0 → XX C nL Q ce sl S (pc + 3) lv st) : XX C nL Q ce sl S pc lv (.ref r :: st) := by
  obtain ⟨p, l, e, R, s, m, args, below, meth, c, D, cA, A, n0, ad0, ex⟩ := C
  intro ad H locs ls h0 ha hM hS hl hlo hso
  by_cases hr : r = 0
  · subst hr
    exact lv_ifnullN hC.1 hC.2.1 hd ht (kt rfl ad H locs ls h0 ha hM hS hl hlo (sok_t hso))
  · have er : tv ad (.ref r) = .ref (ad r) := rv_pos hr
    show W p l e R s m args below meth c H locs ce sl Q (F0 m pc ls (tv ad (.ref r) :: st.map (tv ad)))
    rw [er]
    exact lv_ifnull hC.1 hC.2.1 hd (kf hr ad H locs ls h0 ha hM hS hl hlo (sok_t hso))
theorem x_ifnonnull (hC : CX C cc nL y rm) {r : Nat} {off : Int} (tgt : Nat) (hd : decode cc pc = .ok (.ifnonnull off, 3)) (ht : (pc : Int) + off = (tgt : Int)) (kt : ¬ r = 0 → XX C nL Q ce sl S tgt lv st) (kf : r = 0 → XX C nL Q ce sl S (pc + 3) lv st) : XX C nL Q ce sl S pc lv (.ref r :: st) := by
  obtain ⟨p, l, e, R, s, m, args, below, meth, c, D, cA, A, n0, ad0, ex⟩ := C
  intro ad H locs ls h0 ha hM hS hl hlo hso
  by_cases hr : r = 0
  · subst hr
    exact lv_ifnonnullN hC.1 hC.2.1 hd (kf rfl ad H locs ls h0 ha hM hS hl hlo (sok_t hso))
  · have er : tv ad (.ref r) = .ref (ad r) := rv_pos hr
    show W p l e R s m args below meth c H locs ce sl Q (F0 m pc ls (tv ad (.ref r) :: st.map (tv ad)))
    rw [er]
    exact lv_ifnonnull hC.1 hC.2.1 hd ht (kt hr ad H locs ls h0 ha hM hS hl hlo (sok_t hso))
theorem x_acmp_eq (hC : CX C cc nL y rm) {r q : Nat} (hr : r < KB) (hq : q < KB) {off : Int} (tgt : Nat) (hd : decode cc pc = .ok (.if_acmp .eq off, 3)) (ht : (pc : Int) + off = (tgt : Int)) (kt : r = q → XX C nL Q ce sl S tgt lv st) (kf : ¬ r = q → XX C nL Q ce sl S (pc + 3) lv st) : XX C nL Q ce sl S pc lv (.ref q :: .ref r :: st) := by
  obtain ⟨p, l, e, R, s, m, args, below, meth, c, D, cA, A, n0, ad0, ex⟩ := C
  intro ad H locs ls h0 ha hM hS hl hlo hso
  exact lv_acmp_eq hC.1 hC.2.1 (rx := ro ad r) (ry := ro ad q) hd ht (fun h => kt ((hM.inj (nk hr (sok_h (sok_t hso))) (nk hq (sok_h hso))).mp h) ad H locs ls h0 ha hM hS hl hlo (sok_t (sok_t hso))) (fun h => kf (fun h2 => h ((hM.inj (nk hr (sok_h (sok_t hso))) (nk hq (sok_h hso))).mpr h2)) ad H locs ls h0 ha hM hS hl hlo (sok_t (sok_t hso)))
theorem x_acmp_ne (hC : CX C cc nL y rm) {r q : Nat} (hr : r < KB) (hq : q < KB) {off : Int} (tgt : Nat) (hd : decode cc pc = .ok (.if_acmp .ne off, 3)) (ht : (pc : Int) + off = (tgt : Int)) (kt : ¬ r = q → XX C nL Q ce sl S tgt lv st) (kf : r = q → XX C nL Q ce sl S (pc + 3) lv st) : XX C nL Q ce sl S pc lv (.ref q :: .ref r :: st) := by
  obtain ⟨p, l, e, R, s, m, args, below, meth, c, D, cA, A, n0, ad0, ex⟩ := C
  intro ad H locs ls h0 ha hM hS hl hlo hso
  exact lv_acmp_ne hC.1 hC.2.1 (rx := ro ad r) (ry := ro ad q) hd ht (fun h => kt (fun h2 => h ((hM.inj (nk hr (sok_h (sok_t hso))) (nk hq (sok_h hso))).mpr h2)) ad H locs ls h0 ha hM hS hl hlo (sok_t (sok_t hso))) (fun h => kf ((hM.inj (nk hr (sok_h (sok_t hso))) (nk hq (sok_h hso))).mp h) ad H locs ls h0 ha hM hS hl hlo (sok_t (sok_t hso)))
theorem x_lcmp (hC : CX C cc nL y rm) {a b : Int64} (hd : decode cc pc = .ok (.lcmp, 1)) (k : XX C nL Q ce sl S (pc + 1) lv (.int (lg_cmp a b) :: st)) : XX C nL Q ce sl S pc lv (.long b :: .long a :: st) := by
  obtain ⟨p, l, e, R, s, m, args, below, meth, c, D, cA, A, n0, ad0, ex⟩ := C
  intro ad H locs ls h0 ha hM hS hl hlo hso
  exact W.lcmp hC.1 hC.2.1 hd (k ad H locs ls h0 ha hM hS hl hlo (sok_c trivial (sok_t (sok_t hso))))
theorem x_widen {ce' sl' : Nat} (h1 : ce ≤ ce') (h2 : sl ≤ sl') (k : XX C nL Q ce' sl' S pc lv st) : XX C nL Q ce sl S pc lv st := by
  obtain ⟨p, l, e, R, s, m, args, below, meth, c, D, cA, A, n0, ad0, ex⟩ := C
  intro ad H locs ls h0 ha hM hS hl hlo hso
  exact W.widen h1 h2 (k ad H locs ls h0 ha hM hS hl hlo hso)
theorem x_sub {lv' : List (Nat × Value)} (he : ∀ q ∈ lv', q ∈ lv) (k : XX C nL Q ce sl S pc lv' st) : XX C nL Q ce sl S pc lv st := by
  obtain ⟨p, l, e, R, s, m, args, below, meth, c, D, cA, A, n0, ad0, ex⟩ := C
  intro ad H locs ls h0 ha hM hS hl hlo hso
  refine k ad H locs ls h0 ha hM hS ⟨hl.1, hl.2.1, fun q hq => hl.2.2 q ?_⟩ (fun q hq => hlo q (he q hq)) hso
  rcases List.mem_append.mp hq with h | h
  · obtain ⟨q0, h1, h2⟩ := List.mem_map.mp h
    exact List.mem_append_left _ (List.mem_map.mpr ⟨q0, he q0 h1, h2⟩)
  · exact List.mem_append_right _ h
end ROWA
