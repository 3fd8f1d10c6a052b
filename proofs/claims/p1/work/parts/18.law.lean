section ROWL
def LX (C : cT) (b L : Nat) (xs : Nat → Int32) : Prop :=
  match C with
  | (p, l, e, R, s, m, args, below, meth, c, D, cA, A, n0, ad0, ex) => ex = [(0, .ref b)] ∧ va_X b L xs s s.heap ∧ b < s.heap.size ∧ ¬ A b ∧ A = (fun q => s.heap.size ≤ q) ∧ args = #[Value.ref b] ∧ meth.sig.returnType = ret
variable {C : cT} {cc : ByteArray} {nL : Nat} {y : MethodName} {rm : Room} {Q : State → Prop} {cs sl : Nat} {S : mS} {pc : Nat} {lv : List (Nat × Value)} {st : List Value} {b L : Nat} {xs : Nat → Int32}

theorem x_slen (hC : CX C cc nL y rm) (hX : LX C b L xs) (d0 : decode cc pc = .ok (.aload_n 0, 1)) (d1 : decode cc (pc + 1) = .ok (.arraylength, 1)) (kk : ∀ vv : Int32, vv = (Int32.ofNat L) → XX C nL Q cs sl S (pc + 2) lv (.int vv :: st)) : XX C nL Q cs sl S pc lv st := by
  obtain ⟨p, l, e, R, s, m, args, below, meth, c, D, cA, A, n0, ad0, ex⟩ := C
  intro ad H locs ls h0 ha hM hS hl hlo hso
  obtain ⟨e1, e2, e3, e4, -⟩ := hX
  subst e1
  have hk := kk _ rfl ad H locs ls h0 ha hM hS hl hlo (sok_c trivial hso)
  have hq : ls[0]? = some (.val (.ref b)) := hl.2.2 (0, .ref b) (List.mem_append_right _ List.mem_cons_self)
  refine lv_aload_n hC.1 hC.2.1 d0 rfl hq ?_
  exact va_slen hC.1 hC.2.1 e2 e3 e4 hS d1 hk
theorem x_sld (hC : CX C cc nL y rm) (hX : LX C b L xs) {i : Int32} (j : Nat) (d0 : decode cc pc = .ok (.aload_n 0, 1)) (d1 : decode cc (pc + 1) = .ok (.iload 5, 2)) (hg : lv[j]? = some (5, .int i)) (hin : ¬ (i < 0 ∨ L ≤ i.toNatClampNeg)) (d3 : decode cc (pc + 3) = .ok (.iaload, 1)) (kk : ∀ vv : Int32, vv = (xs i.toNatClampNeg) → XX C nL Q cs sl S (pc + 4) lv (.int vv :: st)) : XX C nL Q cs sl S pc lv st := by
  obtain ⟨p, l, e, R, s, m, args, below, meth, c, D, cA, A, n0, ad0, ex⟩ := C
  intro ad H locs ls h0 ha hM hS hl hlo hso
  obtain ⟨e1, e2, e3, e4, -⟩ := hX
  subst e1
  have hk := kk _ rfl ad H locs ls h0 ha hM hS hl hlo (sok_c trivial hso)
  have hq : ls[0]? = some (.val (.ref b)) := hl.2.2 (0, .ref b) (List.mem_append_right _ List.mem_cons_self)
  refine lv_aload_n hC.1 hC.2.1 d0 rfl hq ?_
  refine lv_iload hC.1 hC.2.1 d1 (lv_at hl j (tvl_at hg)) ?_
  exact va_sld hC.1 hC.2.1 e2 e3 e4 hS hin d3 hk
theorem x_sldk (hC : CX C cc nL y rm) (hX : LX C b L xs) {i v : Int32} {n : Int} (j : Nat) (d0 : decode cc pc = .ok (.aload_n 0, 1)) (d1 : decode cc (pc + 1) = .ok (.iload 5, 2)) (hg : lv[j]? = some (5, .int i)) (d3 : decode cc (pc + 3) = .ok (.iconst n, 1)) (hv : Int32.ofInt n = v) (d4 : decode cc (pc + 4) = .ok (.iadd, 1)) (hin : ¬ (i + v < 0 ∨ L ≤ (i + v).toNatClampNeg)) (d5 : decode cc (pc + 5) = .ok (.iaload, 1)) (kk : ∀ vv : Int32, vv = (xs (i + v).toNatClampNeg) → XX C nL Q cs sl S (pc + 6) lv (.int vv :: st)) : XX C nL Q cs sl S pc lv st := by
  obtain ⟨p, l, e, R, s, m, args, below, meth, c, D, cA, A, n0, ad0, ex⟩ := C
  intro ad H locs ls h0 ha hM hS hl hlo hso
  obtain ⟨e1, e2, e3, e4, -⟩ := hX
  subst e1
  have hk := kk _ rfl ad H locs ls h0 ha hM hS hl hlo (sok_c trivial hso)
  have hq : ls[0]? = some (.val (.ref b)) := hl.2.2 (0, .ref b) (List.mem_append_right _ List.mem_cons_self)
  refine lv_aload_n hC.1 hC.2.1 d0 rfl hq ?_
  refine lv_iload hC.1 hC.2.1 d1 (lv_at hl j (tvl_at hg)) ?_
  refine lv_iconst hC.1 hC.2.1 d3 hv ?_
  refine lv_iadd hC.1 hC.2.1 d4 ?_
  exact va_sld hC.1 hC.2.1 e2 e3 e4 hS hin d5 hk
theorem x_sldb (hC : CX C cc nL y rm) (hX : LX C b L xs) {i v : Int32} {n : Int} (j : Nat) (d0 : decode cc pc = .ok (.aload_n 0, 1)) (d1 : decode cc (pc + 1) = .ok (.iload 5, 2)) (hg : lv[j]? = some (5, .int i)) (d3 : decode cc (pc + 3) = .ok (.bipush n, 2)) (hv : (Int8.ofInt n).toInt32 = v) (d4 : decode cc (pc + 5) = .ok (.iadd, 1)) (hin : ¬ (i + v < 0 ∨ L ≤ (i + v).toNatClampNeg)) (d5 : decode cc (pc + 6) = .ok (.iaload, 1)) (kk : ∀ vv : Int32, vv = (xs (i + v).toNatClampNeg) → XX C nL Q cs sl S (pc + 7) lv (.int vv :: st)) : XX C nL Q cs sl S pc lv st := by
  obtain ⟨p, l, e, R, s, m, args, below, meth, c, D, cA, A, n0, ad0, ex⟩ := C
  intro ad H locs ls h0 ha hM hS hl hlo hso
  obtain ⟨e1, e2, e3, e4, -⟩ := hX
  subst e1
  have hk := kk _ rfl ad H locs ls h0 ha hM hS hl hlo (sok_c trivial hso)
  have hq : ls[0]? = some (.val (.ref b)) := hl.2.2 (0, .ref b) (List.mem_append_right _ List.mem_cons_self)
  refine lv_aload_n hC.1 hC.2.1 d0 rfl hq ?_
  refine lv_iload hC.1 hC.2.1 d1 (lv_at hl j (tvl_at hg)) ?_
  refine lv_bipush hC.1 hC.2.1 d3 hv ?_
  refine lv_iadd hC.1 hC.2.1 d4 ?_
  exact va_sld hC.1 hC.2.1 e2 e3 e4 hS hin d5 hk
theorem law_no {S S9 : mS} (h : (some (.inl (0 : Int32), S) : Option (Rs Int32)) = some (.inl (1 : Int32), S9)) : False := by
  have h1 := congrArg Prod.fst (Option.some.inj h)
  have h2 : (0 : Int32) = 1 := Sum.inl.inj h1
  exact absurd h2 (by decide)
end ROWL
