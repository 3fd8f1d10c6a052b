section ROWV
variable {C : cT} {cc : ByteArray} {nL : Nat} {y : MethodName} {rm : Room} {Q : State → Prop} {ce cs sl : Nat} {S : mS} {pc : Nat} {lv : List (Nat × Value)} {st : List Value}
theorem x_iaddv (hC : CX C cc nL y rm) {a b : Int32} (hd : decode cc pc = .ok (.iadd, 1)) (k : ∀ vv : Int32, vv = (a + b) → XX C nL Q ce sl S (pc + 1) lv (.int vv :: st)) : XX C nL Q ce sl S pc lv (.int b :: .int a :: st) := x_iadd hC hd (k _ rfl)
theorem x_isubv (hC : CX C cc nL y rm) {a b : Int32} (hd : decode cc pc = .ok (.isub, 1)) (k : ∀ vv : Int32, vv = (a - b) → XX C nL Q ce sl S (pc + 1) lv (.int vv :: st)) : XX C nL Q ce sl S pc lv (.int b :: .int a :: st) := x_isub hC hd (k _ rfl)
theorem x_imulv (hC : CX C cc nL y rm) {a b : Int32} (hd : decode cc pc = .ok (.imul, 1)) (k : ∀ vv : Int32, vv = (a * b) → XX C nL Q ce sl S (pc + 1) lv (.int vv :: st)) : XX C nL Q ce sl S pc lv (.int b :: .int a :: st) := x_imul hC hd (k _ rfl)
theorem x_iandv (hC : CX C cc nL y rm) {a b : Int32} (hd : decode cc pc = .ok (.iand, 1)) (k : ∀ vv : Int32, vv = (a &&& b) → XX C nL Q ce sl S (pc + 1) lv (.int vv :: st)) : XX C nL Q ce sl S pc lv (.int b :: .int a :: st) := x_iand hC hd (k _ rfl)
theorem x_iorv (hC : CX C cc nL y rm) {a b : Int32} (hd : decode cc pc = .ok (.ior, 1)) (k : ∀ vv : Int32, vv = (a ||| b) → XX C nL Q ce sl S (pc + 1) lv (.int vv :: st)) : XX C nL Q ce sl S pc lv (.int b :: .int a :: st) := x_ior hC hd (k _ rfl)
theorem x_ixorv (hC : CX C cc nL y rm) {a b : Int32} (hd : decode cc pc = .ok (.ixor, 1)) (k : ∀ vv : Int32, vv = (a ^^^ b) → XX C nL Q ce sl S (pc + 1) lv (.int vv :: st)) : XX C nL Q ce sl S pc lv (.int b :: .int a :: st) := x_ixor hC hd (k _ rfl)
theorem x_ishlv (hC : CX C cc nL y rm) {a b : Int32} (hd : decode cc pc = .ok (.ishl, 1)) (k : ∀ vv : Int32, vv = (a <<< (b &&& 31)) → XX C nL Q ce sl S (pc + 1) lv (.int vv :: st)) : XX C nL Q ce sl S pc lv (.int b :: .int a :: st) := x_ishl hC hd (k _ rfl)
theorem x_ishrv (hC : CX C cc nL y rm) {a b : Int32} (hd : decode cc pc = .ok (.ishr, 1)) (k : ∀ vv : Int32, vv = (a >>> (b &&& 31)) → XX C nL Q ce sl S (pc + 1) lv (.int vv :: st)) : XX C nL Q ce sl S pc lv (.int b :: .int a :: st) := x_ishr hC hd (k _ rfl)
theorem x_idivv (hC : CX C cc nL y rm) {a b : Int32} (hd : decode cc pc = .ok (.idiv, 1)) (hn : ¬ b = 0) (k : ∀ vv : Int32, vv = (a / b) → XX C nL Q ce sl S (pc + 1) lv (.int vv :: st)) : XX C nL Q ce sl S pc lv (.int b :: .int a :: st) := x_idiv hC hd hn (k _ rfl)
theorem x_iremv (hC : CX C cc nL y rm) {a b : Int32} (hd : decode cc pc = .ok (.irem, 1)) (hn : ¬ b = 0) (k : ∀ vv : Int32, vv = (a - a / b * b) → XX C nL Q ce sl S (pc + 1) lv (.int vv :: st)) : XX C nL Q ce sl S pc lv (.int b :: .int a :: st) := x_irem hC hd hn (k _ rfl)
theorem x_inegv (hC : CX C cc nL y rm) {a : Int32} (hd : decode cc pc = .ok (.ineg, 1)) (k : ∀ vv : Int32, vv = (-a) → XX C nL Q ce sl S (pc + 1) lv (.int vv :: st)) : XX C nL Q ce sl S pc lv (.int a :: st) := x_ineg hC hd (k _ rfl)
theorem x_laddv (hC : CX C cc nL y rm) {a b : Int64} (hd : decode cc pc = .ok (.ladd, 1)) (k : ∀ vv : Int64, vv = (a + b) → XX C nL Q ce sl S (pc + 1) lv (.long vv :: st)) : XX C nL Q ce sl S pc lv (.long b :: .long a :: st) := x_ladd hC hd (k _ rfl)
theorem x_lsubv (hC : CX C cc nL y rm) {a b : Int64} (hd : decode cc pc = .ok (.lsub, 1)) (k : ∀ vv : Int64, vv = (a - b) → XX C nL Q ce sl S (pc + 1) lv (.long vv :: st)) : XX C nL Q ce sl S pc lv (.long b :: .long a :: st) := x_lsub hC hd (k _ rfl)
theorem x_lmulv (hC : CX C cc nL y rm) {a b : Int64} (hd : decode cc pc = .ok (.lmul, 1)) (k : ∀ vv : Int64, vv = (a * b) → XX C nL Q ce sl S (pc + 1) lv (.long vv :: st)) : XX C nL Q ce sl S pc lv (.long b :: .long a :: st) := x_lmul hC hd (k _ rfl)
theorem x_ldivv (hC : CX C cc nL y rm) {a b : Int64} (hd : decode cc pc = .ok (.ldiv, 1)) (hn : ¬ b = 0) (k : ∀ vv : Int64, vv = (a / b) → XX C nL Q ce sl S (pc + 1) lv (.long vv :: st)) : XX C nL Q ce sl S pc lv (.long b :: .long a :: st) := x_ldiv hC hd hn (k _ rfl)
theorem x_lremv (hC : CX C cc nL y rm) {a b : Int64} (hd : decode cc pc = .ok (.lrem, 1)) (hn : ¬ b = 0) (k : ∀ vv : Int64, vv = (a - a / b * b) → XX C nL Q ce sl S (pc + 1) lv (.long vv :: st)) : XX C nL Q ce sl S pc lv (.long b :: .long a :: st) := x_lrem hC hd hn (k _ rfl)
theorem x_lnegv (hC : CX C cc nL y rm) {a : Int64} (hd : decode cc pc = .ok (.lneg, 1)) (k : ∀ vv : Int64, vv = (-a) → XX C nL Q ce sl S (pc + 1) lv (.long vv :: st)) : XX C nL Q ce sl S pc lv (.long a :: st) := x_lneg hC hd (k _ rfl)
theorem x_lshrv (hC : CX C cc nL y rm) {a : Int64} {b : Int32} (hd : decode cc pc = .ok (.lshr, 1)) (k : ∀ vv : Int64, vv = (a >>> (b.toInt64 &&& 63)) → XX C nL Q ce sl S (pc + 1) lv (.long vv :: st)) : XX C nL Q ce sl S pc lv (.int b :: .long a :: st) := x_lshr hC hd (k _ rfl)
theorem x_i2lv (hC : CX C cc nL y rm) {a : Int32} (hd : decode cc pc = .ok (.i2l, 1)) (k : ∀ vv : Int64, vv = a.toInt64 → XX C nL Q ce sl S (pc + 1) lv (.long vv :: st)) : XX C nL Q ce sl S pc lv (.int a :: st) := x_i2l hC hd (k _ rfl)
theorem x_l2iv (hC : CX C cc nL y rm) {a : Int64} (hd : decode cc pc = .ok (.l2i, 1)) (k : ∀ vv : Int32, vv = a.toInt32 → XX C nL Q ce sl S (pc + 1) lv (.int vv :: st)) : XX C nL Q ce sl S pc lv (.long a :: st) := x_l2i hC hd (k _ rfl)
theorem x_i2cv (hC : CX C cc nL y rm) {a : Int32} (hd : decode cc pc = .ok (.i2c, 1)) (k : ∀ vv : Int32, vv = (a.toUInt32 % 65536).toInt32 → XX C nL Q ce sl S (pc + 1) lv (.int vv :: st)) : XX C nL Q ce sl S pc lv (.int a :: st) := x_i2c hC hd (k _ rfl)
theorem x_lcmpv (hC : CX C cc nL y rm) {a b : Int64} (hd : decode cc pc = .ok (.lcmp, 1)) (k : ∀ vv : Int32, vv = (lg_cmp a b) → XX C nL Q ce sl S (pc + 1) lv (.int vv :: st)) : XX C nL Q ce sl S pc lv (.long b :: .long a :: st) := x_lcmp hC hd (k _ rfl)
theorem x_getIv (hC : CX C cc nL y rm) {ci k index a N : Nat} {CN ref : String} {T : u_T} {ty : Nat → FieldType} (hF : FC ci CN T N ty) (hL : FL y.cls index ref T k) (hd : decode cc pc = .ok (.getfield index, 3)) (hft : (ft (ci + 1))[k]? = some 0) (hk : gK S a = ci + 1) (kk : ∀ vv : Int32, vv = (gI S a k) → XX C nL Q ce sl S (pc + 3) lv (.int vv :: st)) : XX C nL Q ce sl S pc lv (.ref a :: st) := x_getI hC hF hL hd hft hk (kk _ rfl)
theorem x_getLv (hC : CX C cc nL y rm) {ci k index a N : Nat} {CN ref : String} {T : u_T} {ty : Nat → FieldType} (hF : FC ci CN T N ty) (hL : FL y.cls index ref T k) (hd : decode cc pc = .ok (.getfield index, 3)) (hft : (ft (ci + 1))[k]? = some 1) (hk : gK S a = ci + 1) (kk : ∀ vv : Int64, vv = (gL S a k) → XX C nL Q ce sl S (pc + 3) lv (.long vv :: st)) : XX C nL Q ce sl S pc lv (.ref a :: st) := x_getL hC hF hL hd hft hk (kk _ rfl)
theorem x_getRv (hC : CX C cc nL y rm) {ci k index a N : Nat} {CN ref : String} {T : u_T} {ty : Nat → FieldType} (hF : FC ci CN T N ty) (hL : FL y.cls index ref T k) (hd : decode cc pc = .ok (.getfield index, 3)) (hft : (ft (ci + 1))[k]? = some 2) (hk : gK S a = ci + 1) (kk : ∀ vv : Nat, vv = (gR S a k) → XX C nL Q ce sl S (pc + 3) lv (.ref vv :: st)) : XX C nL Q ce sl S pc lv (.ref a :: st) := x_getR hC hF hL hd hft hk (kk _ rfl)
theorem x_ialdv (hC : CX C cc nL y rm) {a : Nat} {i : Int32} (hd : decode cc pc = .ok (.iaload, 1)) (hk : gK S a = 30) (hin : ¬ (i < 0 ∨ gZ S a ≤ i.toNatClampNeg)) (kk : ∀ vv : Int32, vv = (gI S a i.toNatClampNeg) → XX C nL Q ce sl S (pc + 1) lv (.int vv :: st)) : XX C nL Q ce sl S pc lv (.int i :: .ref a :: st) := x_iald hC hd hk hin (kk _ rfl)
theorem x_caldv (hC : CX C cc nL y rm) {a : Nat} {i : Int32} (hd : decode cc pc = .ok (.caload, 1)) (hk : gK S a = 31) (hin : ¬ (i < 0 ∨ gZ S a ≤ i.toNatClampNeg)) (kk : ∀ vv : Int32, vv = (gI S a i.toNatClampNeg) → XX C nL Q ce sl S (pc + 1) lv (.int vv :: st)) : XX C nL Q ce sl S pc lv (.int i :: .ref a :: st) := x_cald hC hd hk hin (kk _ rfl)
theorem x_zaldv (hC : CX C cc nL y rm) {a : Nat} {i : Int32} (hd : decode cc pc = .ok (.baload, 1)) (hk : gK S a = 32) (hin : ¬ (i < 0 ∨ gZ S a ≤ i.toNatClampNeg)) (kk : ∀ vv : Int32, vv = (gI S a i.toNatClampNeg) → XX C nL Q ce sl S (pc + 1) lv (.int vv :: st)) : XX C nL Q ce sl S pc lv (.int i :: .ref a :: st) := x_zald hC hd hk hin (kk _ rfl)
theorem x_yaldv (hC : CX C cc nL y rm) {a : Nat} {i : Int32} (hd : decode cc pc = .ok (.baload, 1)) (hk : gK S a = 33) (hin : ¬ (i < 0 ∨ gZ S a ≤ i.toNatClampNeg)) (kk : ∀ vv : Int32, vv = (gI S a i.toNatClampNeg) → XX C nL Q ce sl S (pc + 1) lv (.int vv :: st)) : XX C nL Q ce sl S pc lv (.int i :: .ref a :: st) := x_yald hC hd hk hin (kk _ rfl)
theorem x_laldv (hC : CX C cc nL y rm) {a : Nat} {i : Int32} (hd : decode cc pc = .ok (.laload, 1)) (hk : gK S a = 38) (hin : ¬ (i < 0 ∨ gZ S a ≤ i.toNatClampNeg)) (kk : ∀ vv : Int64, vv = (gL S a i.toNatClampNeg) → XX C nL Q ce sl S (pc + 1) lv (.long vv :: st)) : XX C nL Q ce sl S pc lv (.int i :: .ref a :: st) := x_lald hC hd hk hin (kk _ rfl)
theorem x_raldv (hC : CX C cc nL y rm) {a kd t0 : Nat} {i : Int32} {E : String} (hd : decode cc pc = .ok (.aaload, 1)) (hk : gK S a = kd) (hkd : 34 ≤ kd ∧ kd ≠ 38 ∧ kd ≠ 39) (ht : ∀ cA, (tyA cA)[t0]? = some (cA kd, .object E)) (hin : ¬ (i < 0 ∨ gZ S a ≤ i.toNatClampNeg)) (kk : ∀ vv : Nat, vv = (gR S a i.toNatClampNeg) → XX C nL Q ce sl S (pc + 1) lv (.ref vv :: st)) : XX C nL Q ce sl S pc lv (.int i :: .ref a :: st) := x_rald hC hd hk hkd ht hin (kk _ rfl)
theorem x_alenv (hC : CX C cc nL y rm) {a kd t0 : Nat} {ty : FieldType} (hd : decode cc pc = .ok (.arraylength, 1)) (hk : gK S a = kd) (hkd : 30 ≤ kd) (ht : ∀ cA, (tyA cA)[t0]? = some (cA kd, ty)) (kk : ∀ vv : Int32, vv = (Int32.ofNat (gZ S a)) → XX C nL Q ce sl S (pc + 1) lv (.int vv :: st)) : XX C nL Q ce sl S pc lv (.ref a :: st) := x_alen hC hd hk hkd ht (kk _ rfl)
theorem x_putIv (hC : CX C cc nL y rm) {ci k index a N : Nat} {v : Int32} {CN ref : String} {T : u_T} {ty : Nat → FieldType} (hF : FC ci CN T N ty) (hL : FL y.cls index ref T k) (hd : decode cc pc = .ok (.putfield index, 3)) (hft : (ft (ci + 1))[k]? = some 0) (hfin : (T k).2.2.2 = false) (hn : NF (ty k) v) (hk : gK S a = ci + 1) (kk : ∀ vv : mS, vv = (sI S a k v) → XX C nL Q ce sl vv (pc + 3) lv st) : XX C nL Q ce sl S pc lv (.int v :: .ref a :: st) := x_putI hC hF hL hd hft hfin hn hk (kk _ rfl)
theorem x_putIFv (hC : CX C cc nL y rm) {ci k index a N : Nat} {v : Int32} {CN ref : String} {T : u_T} {ty : Nat → FieldType} (hF : FC ci CN T N ty) (hL : (Cond.fieldLink y.cls index ref (T k).2.1 (T k).2.2.1) ∈ wt) (href : (T k).1 = ref) (hd : decode cc pc = .ok (.putfield index, 3)) (hft : (ft (ci + 1))[k]? = some 0) (hfin : (T k).2.2.2 = true) (hini : y.name = "<init>") (hdecl : (T k).1 = y.cls)(hn : NF (ty k) v) (hk : gK S a = ci + 1) (kk : ∀ vv : mS, vv = (sI S a k v) → XX C nL Q ce sl vv (pc + 3) lv st) : XX C nL Q ce sl S pc lv (.int v :: .ref a :: st) := x_putIF hC hF hL href hd hft hfin hini hdecl hn hk (kk _ rfl)
theorem x_putLv (hC : CX C cc nL y rm) {ci k index a N : Nat} {v : Int64} {CN ref : String} {T : u_T} {ty : Nat → FieldType} (hF : FC ci CN T N ty) (hL : FL y.cls index ref T k) (hd : decode cc pc = .ok (.putfield index, 3)) (hft : (ft (ci + 1))[k]? = some 1) (hfin : (T k).2.2.2 = false) (hn : ty k = .long) (hk : gK S a = ci + 1) (kk : ∀ vv : mS, vv = (sL S a k v) → XX C nL Q ce sl vv (pc + 3) lv st) : XX C nL Q ce sl S pc lv (.long v :: .ref a :: st) := x_putL hC hF hL hd hft hfin hn hk (kk _ rfl)
theorem x_putLFv (hC : CX C cc nL y rm) {ci k index a N : Nat} {v : Int64} {CN ref : String} {T : u_T} {ty : Nat → FieldType} (hF : FC ci CN T N ty) (hL : (Cond.fieldLink y.cls index ref (T k).2.1 (T k).2.2.1) ∈ wt) (href : (T k).1 = ref) (hd : decode cc pc = .ok (.putfield index, 3)) (hft : (ft (ci + 1))[k]? = some 1) (hfin : (T k).2.2.2 = true) (hini : y.name = "<init>") (hdecl : (T k).1 = y.cls)(hn : ty k = .long) (hk : gK S a = ci + 1) (kk : ∀ vv : mS, vv = (sL S a k v) → XX C nL Q ce sl vv (pc + 3) lv st) : XX C nL Q ce sl S pc lv (.long v :: .ref a :: st) := x_putLF hC hF hL href hd hft hfin hini hdecl hn hk (kk _ rfl)
theorem x_putRv (hC : CX C cc nL y rm) {ci k index a N : Nat} {v : Nat} {CN ref : String} {T : u_T} {ty : Nat → FieldType} (hF : FC ci CN T N ty) (hL : FL y.cls index ref T k) (hd : decode cc pc = .ok (.putfield index, 3)) (hft : (ft (ci + 1))[k]? = some 2) (hfin : (T k).2.2.2 = false) (hn : (∃ n, ty k = .object n) ∨ ∃ t, ty k = .array t) (hk : gK S a = ci + 1) (kk : ∀ vv : mS, vv = (sR S a k v) → XX C nL Q ce sl vv (pc + 3) lv st) : XX C nL Q ce sl S pc lv (.ref v :: .ref a :: st) := x_putR hC hF hL hd hft hfin hn hk (kk _ rfl)
theorem x_putRFv (hC : CX C cc nL y rm) {ci k index a N : Nat} {v : Nat} {CN ref : String} {T : u_T} {ty : Nat → FieldType} (hF : FC ci CN T N ty) (hL : (Cond.fieldLink y.cls index ref (T k).2.1 (T k).2.2.1) ∈ wt) (href : (T k).1 = ref) (hd : decode cc pc = .ok (.putfield index, 3)) (hft : (ft (ci + 1))[k]? = some 2) (hfin : (T k).2.2.2 = true) (hini : y.name = "<init>") (hdecl : (T k).1 = y.cls)(hn : (∃ n, ty k = .object n) ∨ ∃ t, ty k = .array t) (hk : gK S a = ci + 1) (kk : ∀ vv : mS, vv = (sR S a k v) → XX C nL Q ce sl vv (pc + 3) lv st) : XX C nL Q ce sl S pc lv (.ref v :: .ref a :: st) := x_putRF hC hF hL href hd hft hfin hini hdecl hn hk (kk _ rfl)
theorem x_iastv (hC : CX C cc nL y rm) {a : Nat} {i v : Int32} (hd : decode cc pc = .ok (.iastore, 1)) (hk : gK S a = 30) (hin : ¬ (i < 0 ∨ gZ S a ≤ i.toNatClampNeg)) (kk : ∀ vv : mS, vv = (sI S a i.toNatClampNeg v) → XX C nL Q ce sl vv (pc + 1) lv st) : XX C nL Q ce sl S pc lv (.int v :: .int i :: .ref a :: st) := x_iast hC hd hk hin (kk _ rfl)
theorem x_castv (hC : CX C cc nL y rm) {a : Nat} {i v : Int32} (hd : decode cc pc = .ok (.castore, 1)) (hn : narrow .char (.int v) = .int v) (hk : gK S a = 31) (hin : ¬ (i < 0 ∨ gZ S a ≤ i.toNatClampNeg)) (kk : ∀ vv : mS, vv = (sI S a i.toNatClampNeg v) → XX C nL Q ce sl vv (pc + 1) lv st) : XX C nL Q ce sl S pc lv (.int v :: .int i :: .ref a :: st) := x_cast hC hd hn hk hin (kk _ rfl)
theorem x_zastv (hC : CX C cc nL y rm) {a : Nat} {i v : Int32} (hd : decode cc pc = .ok (.bastore, 1)) (hn : narrow .boolean (.int v) = .int v) (hk : gK S a = 32) (hin : ¬ (i < 0 ∨ gZ S a ≤ i.toNatClampNeg)) (kk : ∀ vv : mS, vv = (sI S a i.toNatClampNeg v) → XX C nL Q ce sl vv (pc + 1) lv st) : XX C nL Q ce sl S pc lv (.int v :: .int i :: .ref a :: st) := x_zast hC hd hn hk hin (kk _ rfl)
theorem x_yastv (hC : CX C cc nL y rm) {a : Nat} {i v : Int32} (hd : decode cc pc = .ok (.bastore, 1)) (hn : narrow .byte (.int v) = .int v) (hk : gK S a = 33) (hin : ¬ (i < 0 ∨ gZ S a ≤ i.toNatClampNeg)) (kk : ∀ vv : mS, vv = (sI S a i.toNatClampNeg v) → XX C nL Q ce sl vv (pc + 1) lv st) : XX C nL Q ce sl S pc lv (.int v :: .int i :: .ref a :: st) := x_yast hC hd hn hk hin (kk _ rfl)
theorem x_lastv (hC : CX C cc nL y rm) {a : Nat} {i : Int32} {v : Int64} (hd : decode cc pc = .ok (.lastore, 1)) (hk : gK S a = 38) (hin : ¬ (i < 0 ∨ gZ S a ≤ i.toNatClampNeg)) (kk : ∀ vv : mS, vv = (sL S a i.toNatClampNeg v) → XX C nL Q ce sl vv (pc + 1) lv st) : XX C nL Q ce sl S pc lv (.long v :: .int i :: .ref a :: st) := x_last hC hd hk hin (kk _ rfl)
theorem x_rastv (hC : CX C cc nL y rm) {a v kd t0 ci : Nat} {i : Int32} {E CN : String} {T : u_T} {N : Nat} {ty : Nat → FieldType} (hF : FC ci CN T N ty) (hd : decode cc pc = .ok (.aastore, 1)) (hk : gK S a = kd) (hkd : 34 ≤ kd ∧ kd ≠ 38 ∧ kd ≠ 39) (ht : ∀ cA, (tyA cA)[t0]? = some (cA kd, .object E)) (hE : CN = E ∨ Cond.castable CN E ∈ wn) (hkv : gK S v = ci + 1) (hin : ¬ (i < 0 ∨ gZ S a ≤ i.toNatClampNeg)) (kk : ∀ vv : mS, vv = (sR S a i.toNatClampNeg v) → XX C nL Q ce sl vv (pc + 1) lv st) : XX C nL Q ce sl S pc lv (.ref v :: .int i :: .ref a :: st) := x_rast hC hF hd hk hkd ht hE hkv hin (kk _ rfl)
theorem x_rastNv (hC : CX C cc nL y rm) {a kd t0 : Nat} {i : Int32} {E : String} (hd : decode cc pc = .ok (.aastore, 1)) (hk : gK S a = kd) (hkd : 34 ≤ kd ∧ kd ≠ 38 ∧ kd ≠ 39) (ht : ∀ cA, (tyA cA)[t0]? = some (cA kd, .object E)) (hin : ¬ (i < 0 ∨ gZ S a ≤ i.toNatClampNeg)) (kk : ∀ vv : mS, vv = (sR S a i.toNatClampNeg 0) → XX C nL Q ce sl vv (pc + 1) lv st) : XX C nL Q ce sl S pc lv (.ref 0 :: .int i :: .ref a :: st) := x_rastN hC hd hk hkd ht hin (kk _ rfl)
theorem x_newv (hC : CX C cc nL y rm) {ci index N : Nat} {CN : String} {T : u_T} {ty : Nat → FieldType} (hF : FC ci CN T N ty) (hN : FN ci ty N) (hL : Cond.classLink y.cls index CN ∈ wt) (hI : Cond.instantiable CN N ∈ wt) (hJ : Cond.initialized CN ∈ wt) (hd : decode cc pc = .ok (.new index, 3)) (hkb : gN S + 1 < KB) (hc : cs + 1 ≤ rm.cells) (hs : sl + N ≤ rm.slots) (kk : ∀ (vv : mS) (rr : Nat), vv = (sW S (ci + 1) 0) → rr = gN S + 1 → XX C nL Q (cs + 1) (sl + N) vv (pc + 3) lv (.ref rr :: st)) : XX C nL Q cs sl S pc lv st := x_new hC hF hN hL hI hJ hd hkb hc hs (kk _ _ rfl rfl)
theorem x_newaIv (hC : CX C cc nL y rm) {n : Int32} {z : Nat} (hJ : Cond.arrayClass .int ∈ wt) (hd : decode cc pc = .ok (.newarray .int, 2)) (hn : ¬ n < 0) (hz : n.toNatClampNeg = z) (hb : z ≤ 65536) (hkb : gN S + 1 < KB) (hc : cs + 1 ≤ rm.cells) (hs : sl + z ≤ rm.slots) (kk : ∀ (vv : mS) (rr : Nat), vv = (sW S 30 z) → rr = gN S + 1 → XX C nL Q (cs + 1) (sl + z) vv (pc + 2) lv (.ref rr :: st)) : XX C nL Q cs sl S pc lv (.int n :: st) := x_newaI hC hJ hd hn hz hb hkb hc hs (kk _ _ rfl rfl)
theorem x_newaCv (hC : CX C cc nL y rm) {n : Int32} {z : Nat} (hJ : Cond.arrayClass .char ∈ wt) (hd : decode cc pc = .ok (.newarray .char, 2)) (hn : ¬ n < 0) (hz : n.toNatClampNeg = z) (hb : z ≤ 65536) (hkb : gN S + 1 < KB) (hc : cs + 1 ≤ rm.cells) (hs : sl + z ≤ rm.slots) (kk : ∀ (vv : mS) (rr : Nat), vv = (sW S 31 z) → rr = gN S + 1 → XX C nL Q (cs + 1) (sl + z) vv (pc + 2) lv (.ref rr :: st)) : XX C nL Q cs sl S pc lv (.int n :: st) := x_newaC hC hJ hd hn hz hb hkb hc hs (kk _ _ rfl rfl)
theorem x_newaZv (hC : CX C cc nL y rm) {n : Int32} {z : Nat} (hJ : Cond.arrayClass .boolean ∈ wt) (hd : decode cc pc = .ok (.newarray .boolean, 2)) (hn : ¬ n < 0) (hz : n.toNatClampNeg = z) (hb : z ≤ 65536) (hkb : gN S + 1 < KB) (hc : cs + 1 ≤ rm.cells) (hs : sl + z ≤ rm.slots) (kk : ∀ (vv : mS) (rr : Nat), vv = (sW S 32 z) → rr = gN S + 1 → XX C nL Q (cs + 1) (sl + z) vv (pc + 2) lv (.ref rr :: st)) : XX C nL Q cs sl S pc lv (.int n :: st) := x_newaZ hC hJ hd hn hz hb hkb hc hs (kk _ _ rfl rfl)
theorem x_newaYv (hC : CX C cc nL y rm) {n : Int32} {z : Nat} (hJ : Cond.arrayClass .byte ∈ wt) (hd : decode cc pc = .ok (.newarray .byte, 2)) (hn : ¬ n < 0) (hz : n.toNatClampNeg = z) (hb : z ≤ 65536) (hkb : gN S + 1 < KB) (hc : cs + 1 ≤ rm.cells) (hs : sl + z ≤ rm.slots) (kk : ∀ (vv : mS) (rr : Nat), vv = (sW S 33 z) → rr = gN S + 1 → XX C nL Q (cs + 1) (sl + z) vv (pc + 2) lv (.ref rr :: st)) : XX C nL Q cs sl S pc lv (.int n :: st) := x_newaY hC hJ hd hn hz hb hkb hc hs (kk _ _ rfl rfl)
theorem x_newaLv (hC : CX C cc nL y rm) {n : Int32} {z : Nat} (hJ : Cond.arrayClass .long ∈ wt) (hd : decode cc pc = .ok (.newarray .long, 2)) (hn : ¬ n < 0) (hz : n.toNatClampNeg = z) (hb : z ≤ 65536) (hkb : gN S + 1 < KB) (hc : cs + 1 ≤ rm.cells) (hs : sl + z ≤ rm.slots) (kk : ∀ (vv : mS) (rr : Nat), vv = (sW S 38 z) → rr = gN S + 1 → XX C nL Q (cs + 1) (sl + z) vv (pc + 2) lv (.ref rr :: st)) : XX C nL Q cs sl S pc lv (.int n :: st) := x_newaL hC hJ hd hn hz hb hkb hc hs (kk _ _ rfl rfl)
theorem x_newaDv (hC : CX C cc nL y rm) {n : Int32} {z : Nat} (hJ : Cond.arrayClass .double ∈ wt) (hd : decode cc pc = .ok (.newarray .double, 2)) (hn : ¬ n < 0) (hz : n.toNatClampNeg = z) (hb : z ≤ 65536) (hkb : gN S + 1 < KB) (hc : cs + 1 ≤ rm.cells) (hs : sl + z ≤ rm.slots) (kk : ∀ (vv : mS) (rr : Nat), vv = (sW S 39 z) → rr = gN S + 1 → XX C nL Q (cs + 1) (sl + z) vv (pc + 2) lv (.ref rr :: st)) : XX C nL Q cs sl S pc lv (.int n :: st) := x_newaD hC hJ hd hn hz hb hkb hc hs (kk _ _ rfl rfl)
theorem x_newrv (hC : CX C cc nL y rm) {n : Int32} {z kd t0 index : Nat} {E : String} (hL : Cond.classLink y.cls index E ∈ wt) (hJ : Cond.arrayOver (.object E) ∈ wn) (hkd : 34 ≤ kd ∧ kd ≠ 38 ∧ kd ≠ 39) (ht : ∀ cA, (tyA cA)[t0]? = some (cA kd, .object E)) (hd : decode cc pc = .ok (.anewarray index, 3)) (hn : ¬ n < 0) (hz : n.toNatClampNeg = z) (hb : z ≤ 65536) (hkb : gN S + 1 < KB) (hc : cs + 1 ≤ rm.cells) (hs : sl + z ≤ rm.slots) (kk : ∀ (vv : mS) (rr : Nat), vv = (sW S kd z) → rr = gN S + 1 → XX C nL Q (cs + 1) (sl + z) vv (pc + 3) lv (.ref rr :: st)) : XX C nL Q cs sl S pc lv (.int n :: st) := x_newr hC hL hJ hkd ht hd hn hz hb hkb hc hs (kk _ _ rfl rfl)
theorem x_pick {lv' : List (Nat × Value)} (ks : List Nat) (he : ks.filterMap (fun k => lv[k]?) = lv') (k : XX C nL Q cs sl S pc lv' st) : XX C nL Q cs sl S pc lv st := x_sub (fun q hq => by
  subst he
  obtain ⟨i, -, hi⟩ := List.mem_filterMap.mp hq
  exact List.mem_of_getElem? hi) k
def gd {α : Type} (c : Prop) [Decidable c] (x : Option α) : Option α := if c then x else none
theorem gd_some {α : Type} {c : Prop} [Decidable c] {x : Option α} {o : α} (h : gd c x = some o) : c ∧ x = some o := by
  unfold gd at h
  by_cases hc : c
  · rw [if_pos hc] at h; exact ⟨hc, h⟩
  · rw [if_neg hc] at h; cases h
def lt9 {α β : Type} (v : α) (f : α → β) : β := f v
theorem lt_x {α β : Type} {x v : α} {f : α → β} {r : β} (hx : x = v) (h : lt9 v f = r) : f x = r := by subst hx; exact h
def zf1 {α β : Type} : List α → (List α → β) → β
  | [], k => k []
  | a :: t, k => zf1 t fun t' => k (a :: t')
def zf2 {α β : Type} : List (List α) → (List (List α) → β) → β
  | [], k => k []
  | r :: t, k => zf1 r fun r' => zf2 t fun t' => k (r' :: t')
theorem zf1_eq {α β : Type} (l : List α) : ∀ (k : List α → β), zf1 l k = k l := by
  induction l with
  | nil => intro k; rfl
  | cons a t ih => intro k; simp only [zf1, ih]
theorem zf2_eq {α β : Type} (l : List (List α)) : ∀ (k : List (List α) → β), zf2 l k = k l := by
  induction l with
  | nil => intro k; rfl
  | cons a t ih => intro k; simp only [zf2, zf1_eq, ih]
def zI {β : Type} (S : mS) (k : mS → β) : β := zf2 S.1 fun a => k (a, S.2)
def zL {β : Type} (S : mS) (k : mS → β) : β := zf2 S.2.1 fun a => k (S.1, a, S.2.2)
def zR {β : Type} (S : mS) (k : mS → β) : β := zf2 S.2.2.1 fun a => k (S.1, S.2.1, a, S.2.2.2)
def zW {β : Type} (S : mS) (k : mS → β) : β := zf2 S.1 fun a => zf2 S.2.1 fun b => zf2 S.2.2.1 fun c => zf2 S.2.2.2.1 fun d => zf1 S.2.2.2.2.1 fun e => zf1 S.2.2.2.2.2.1 fun g => match S.2.2.2.2.2.2 with
  | 0 => k (a, b, c, d, e, g, 0)
  | n + 1 => k (a, b, c, d, e, g, n + 1)
theorem zI_x {β : Type} {x v : mS} {f : mS → β} {r : β} (hx : x = v) (h : zI v f = r) : f x = r := by
  subst hx
  unfold zI at h
  rw [zf2_eq] at h
  exact h
theorem zL_x {β : Type} {x v : mS} {f : mS → β} {r : β} (hx : x = v) (h : zL v f = r) : f x = r := by
  subst hx
  unfold zL at h
  rw [zf2_eq] at h
  exact h
theorem zR_x {β : Type} {x v : mS} {f : mS → β} {r : β} (hx : x = v) (h : zR v f = r) : f x = r := by
  subst hx
  unfold zR at h
  rw [zf2_eq] at h
  exact h
theorem zW_x {β : Type} {x v : mS} {f : mS → β} {r : β} (hx : x = v) (h : zW v f = r) : f x = r := by
  subst hx
  obtain ⟨a, b, c, d, e, g, n⟩ := x
  unfold zW at h
  rw [zf2_eq, zf2_eq, zf2_eq, zf2_eq, zf1_eq, zf1_eq] at h
  cases n <;> exact h
def bk {τ σ : Type} (o : Rs τ) (f : τ → mS → Option (Rs σ)) : Option (Rs σ) := match o with
  | (.inl r, S) => f r S
  | (.inr E, S) => some (.inr E, S)
def bd {τ σ : Type} (x : Option (Rs τ)) (f : τ → mS → Option (Rs σ)) : Option (Rs σ) := match x with
  | none => none
  | some o => bk o f
theorem bd_some {τ σ : Type} {x : Option (Rs τ)} {f : τ → mS → Option (Rs σ)} {o : Rs σ} (h : bd x f = some o) : ∃ o1, x = some o1 ∧ bk o1 f = some o := by
  cases x with
  | none => cases h
  | some o1 => exact ⟨o1, rfl, h⟩
theorem bk_l {τ σ : Type} {r : τ} {S : mS} {f : τ → mS → Option (Rs σ)} {o : Rs σ} (h : bk (.inl r, S) f = some o) : f r S = some o := h
theorem bk_r {τ σ : Type} {E : String} {S : mS} {f : τ → mS → Option (Rs σ)} {o : Rs σ} (h : bk (.inr E, S) f = some o) : o = (.inr E, S) := (Option.some.inj h).symm
def bdc {τ σ : Type} (x : Option (Rs τ)) (g : String → mS → Option (Rs σ)) (f : τ → mS → Option (Rs σ)) : Option (Rs σ) := match x with
  | none => none
  | some (.inl r, S) => f r S
  | some (.inr E, S) => g E S
theorem bdc_some {τ σ : Type} {x : Option (Rs τ)} {g : String → mS → Option (Rs σ)} {f : τ → mS → Option (Rs σ)} {o : Rs σ} (h : bdc x g f = some o) : ∃ o1, x = some o1 ∧ bdc (some o1) g f = some o := by
  cases x with
  | none => cases h
  | some o1 => exact ⟨o1, rfl, h⟩
theorem bdc_l {τ σ : Type} {r : τ} {S : mS} {g : String → mS → Option (Rs σ)} {f : τ → mS → Option (Rs σ)} {o : Rs σ} (h : bdc (some (.inl r, S)) g f = some o) : f r S = some o := h
theorem bdc_r {τ σ : Type} {E : String} {S : mS} {g : String → mS → Option (Rs σ)} {f : τ → mS → Option (Rs σ)} {o : Rs σ} (h : bdc (some (.inr E, S)) g f = some o) : g E S = some o := h
theorem so {α : Type} {a o : α} (h : some a = some o) : o = a := (Option.some.inj h).symm
section
variable {rest : List Value} {S' : mS} {pn : Nat}
theorem xk_i {r : Int32} (h : XX C nL Q cs sl S' pn lv (.int r :: rest)) : XK C nL Q cs sl (fun r : Int32 => some (.int r)) (.inl r, S') pc pn lv rest := xk_l h
theorem xk_j {r : Int64} (h : XX C nL Q cs sl S' pn lv (.long r :: rest)) : XK C nL Q cs sl (fun r : Int64 => some (.long r)) (.inl r, S') pc pn lv rest := xk_l h
theorem xk_a {r : Nat} (h : XX C nL Q cs sl S' pn lv (.ref r :: rest)) : XK C nL Q cs sl (fun r : Nat => some (.ref r)) (.inl r, S') pc pn lv rest := xk_l h
theorem xk_f {r : UInt32} (h : XX C nL Q cs sl S' pn lv (.float r :: rest)) : XK C nL Q cs sl (fun r : UInt32 => some (.float r)) (.inl r, S') pc pn lv rest := xk_l h
theorem xk_d {r : UInt64} (h : XX C nL Q cs sl S' pn lv (.double r :: rest)) : XK C nL Q cs sl (fun r : UInt64 => some (.double r)) (.inl r, S') pc pn lv rest := xk_l h
theorem xk_v {r : Unit} (h : XX C nL Q cs sl S' pn lv rest) : XK C nL Q cs sl (fun _ : Unit => none) (.inl r, S') pc pn lv rest := xk_l h
end
theorem nf_C {v : Int32} (h : (v.toUInt32.toUInt16.toUInt32.toInt32 = v ∧ 0 ≤ v) ∧ v ≤ 65535) : NF .char v := by
  refine ⟨?_, ?_⟩
  · show Value.int _ = _
    rw [h.1.1]
  · show (decide (0 ≤ v) && decide (v ≤ 65535)) = true
    simp [h.1.2, h.2]
end ROWV
