section ROWB
def gB (v : Int32) : Prop := v = 0 ∨ v = 1
def gC (v : Int32) : Prop := (v.toUInt32 % 65536).toInt32 = v
def NF (ty : FieldType) (v : Int32) : Prop := narrow ty (.int v) = .int v ∧ fits ty (.int v) = true
theorem nf_int (v : Int32) : NF .int v := ⟨rfl, rfl⟩
theorem nf_B {v : Int32} (h : v = 0 ∨ v = 1) : NF .boolean v := by
  rcases h with rfl | rfl <;> exact ⟨rfl, rfl⟩
def FC (ci : Nat) (CN : String) (T : u_T) (N : Nat) (ty : Nat → FieldType) : Prop := vwCl[ci]? = some (CN, T, N) ∧ (∀ w ∈ u_ws CN T N, w ∈ wt) ∧ (∀ k, k < N → parseFieldDescriptor (T k).2.2.1 = some (ty k)) ∧ (∀ a, a < N → ∀ b, b < N → a ≠ b → (T a).2.1 ≠ (T b).2.1) ∧ ci < 29 ∧ N = (ft (ci + 1)).length
def FL (own : String) (index : Nat) (ref : String) (T : u_T) (k : Nat) : Prop := ((Cond.fieldLink own index ref (T k).2.1 (T k).2.2.1) ∈ wt ∨ ∃ host, (Cond.fieldLinkNest own index ref (T k).2.1 (T k).2.2.1 host) ∈ wn) ∧ ((T k).1 = ref ∨ (Cond.sameField ref (T k).1 (T k).2.1 (T k).2.2.1) ∈ wt)
theorem NN.use {U : State} {A : Array Value} {w : Cond} (h : NN U) (hw : w ∈ wn) : w.before A U = true := nwd_use (List.mem_filter.mp hw).2 (h.1 w hw)
theorem NN.moved {s U : State} (hW : s.WarmedH U.vm) (h : NN s) : NN U := ⟨fun w hw => nwd_moved (List.mem_filter.mp hw).2 hW (h.1 w hw), fun q hq => va_Nc.moved hW.alike (h.2.1 q hq), fun q hq => by
  obtain ⟨a, ha⟩ := h.2.2 q hq
  exact ⟨a, vk_R.warm hW ha⟩⟩
theorem MM.pos {D : va_G} {cl : List vw_C} {cA : Nat → ClassId} {ad : Nat → Nat} {A : Nat → Prop} {S : mS} {H : Heap} (h : MM D cl cA ad A S H) {n kd : Nat} (hk : gK S n = kd) (h0 : 1 ≤ kd) : 1 ≤ n ∧ n ≤ gN S := h.2.2.1 n (by omega)
theorem MM.obj {D : va_G} {cl : List vw_C} {cA : Nat → ClassId} {ad : Nat → Nat} {A : Nat → Prop} {S : mS} {H : Heap} (h : MM D cl cA ad A S H) {n ci : Nat} (hk : gK S n = ci + 1) (hc : ci < 29) : (pw cA ad S)[n - 1]? = some (ad n, .inr (ci, fl ad S n 0 (ft (ci + 1)))) := by
  obtain ⟨h1, h2⟩ := h.pos hk (by omega)
  rw [pw_get h1 h2, ce_obj hk (by omega)]
  rfl
theorem MM.arr {D : va_G} {cl : List vw_C} {cA : Nat → ClassId} {ad : Nat → Nat} {A : Nat → Prop} {S : mS} {H : Heap} (h : MM D cl cA ad A S H) {n kd : Nat} (hk : gK S n = kd) (hc : 30 ≤ kd) : (pw cA ad S)[n - 1]? = some (ad n, .inl (cA kd, gZ S n, ca ad S n kd)) := by
  obtain ⟨h1, h2⟩ := h.pos hk (by omega)
  rw [pw_get h1 h2, ce_arr hk (by omega)]
theorem tv_pos {ad : Nat → Nat} {n : Nat} (h : 1 ≤ n) : tv ad (.ref n) = .ref (ad n) := rv_pos (by omega)
theorem ca_I {ad : Nat → Nat} {S : mS} {n kd : Nat} (h : kd < 34) : ca ad S n kd = .inl (fun i => gI S n i) := by simp [ca, h]
theorem ca_L {ad : Nat → Nat} {S : mS} {n : Nat} : ca ad S n 38 = .inr (.inl (fun i => gL S n i)) := by simp [ca]
theorem ca_D {ad : Nat → Nat} {S : mS} {n : Nat} : ca ad S n 39 = .inr (.inr (.inr (.inl (fun i => gD S n i)))) := by simp [ca]
theorem ca_R {ad : Nat → Nat} {S : mS} {n kd : Nat} (h : 34 ≤ kd ∧ kd ≠ 38 ∧ kd ≠ 39) : ca ad S n kd = .inr (.inr (.inr (.inr (fun i => ro ad (gR S n i))))) := by simp [ca, show ¬ kd < 34 from by omega, h.2.1, h.2.2]
theorem pw_aL {cA : Nat → ClassId} {ad : Nat → Nat} {S : mS} {n k : Nat} {v : Int64} (h1 : 1 ≤ n) (h2 : n ≤ gN S) (hk : gK S n = 38) : (pw cA ad S).set (n - 1) (ad n, .inl (cA 38, gZ S n, .inr (.inl (vp_updL (fun i => gL S n i) k v)))) = pw cA ad (sL S n k v) := by
  refine pw_set h1 h2 rfl ?_ (fun m hm => ce_sL hm)
  rw [ce_arr (S := sL S n k v) (kd := 38) hk (by omega), ca_L]
  have e : (fun i => gL (sL S n k v) n i) = vp_updL (fun i => gL S n i) k v := by
    funext i
    simp [gL_sL, vp_updL]
  rw [e]
  rfl
variable {C : cT} {cc : ByteArray} {nL : Nat} {y : MethodName} {rm : Room} {Q : State → Prop} {ce sl : Nat} {S : mS} {pc : Nat} {lv : List (Nat × Value)} {st : List Value}

theorem x_getI (hC : CX C cc nL y rm) {ci k index a N : Nat} {CN ref : String} {T : u_T} {ty : Nat → FieldType} (hF : FC ci CN T N ty) (hL : FL y.cls index ref T k) (hd : decode cc pc = .ok (.getfield index, 3)) (hft : (ft (ci + 1))[k]? = some 0) (hk : gK S a = ci + 1) (kk : XX C nL Q ce sl S (pc + 3) lv (.int (gI S a k) :: st)) : XX C nL Q ce sl S pc lv (.ref a :: st) := by
  obtain ⟨p, l, e, R, s, m, args, below, meth, c, D, cA, A, n0, ad0, ex⟩ := C
  intro ad H locs ls h0 ha hM hS hl hlo hso
  obtain ⟨f1, f2, f3, f4, f5, f6⟩ := hF
  have hkN : k < N := by rw [f6]; exact (List.getElem?_eq_some_iff.mp hft).1
  have he := hM.obj hk f5
  have hp := (hM.pos hk (Nat.succ_le_succ (Nat.zero_le _))).1
  have hv := fl_get (ad := ad) (S := S) (n := a) (ft (ci + 1)) 0 k 0 hft
  rw [Nat.zero_add] at hv
  have kz := kk ad H locs ls h0 ha hM hS hl hlo (sok_c trivial (sok_t hso))
  show W p l e R s m args below meth c H locs ce sl Q (F0 m pc ls (tv ad (.ref a) :: st.map (tv ad)))
  rw [tv_pos hp]
  have hsame : ∀ x, s.fieldFound? (T k).1 (T k).2.1 (T k).2.2.1 = some x → s.fieldFound? ref (T k).2.1 (T k).2.2.1 = some x := by
    rcases hL.2 with h | h
    · rw [h]; exact fun _ z => z
    · exact fun x z => u_same (hC.2.2.2.2.1 _ h) x z
  rcases hL.1 with h | ⟨host, h⟩
  · exact va_get hC.1 hC.2.1 hC.2.2.2.2.1 f2 hC.2.2.2.1 hC.2.2.2.2.2.1 hM.1 (a - 1) he f1 k hkN (hC.2.2.2.2.1 _ h) hsame hv hd kz
  · exact va_getN hC.1 hC.2.1 hC.2.2.2.2.1 f2 hC.2.2.2.1 hC.2.2.2.2.2.1 hM.1 (a - 1) he f1 k hkN (hC.2.2.2.2.2.2.2.2.1.use h) hsame hv hd kz
theorem x_getL (hC : CX C cc nL y rm) {ci k index a N : Nat} {CN ref : String} {T : u_T} {ty : Nat → FieldType} (hF : FC ci CN T N ty) (hL : FL y.cls index ref T k) (hd : decode cc pc = .ok (.getfield index, 3)) (hft : (ft (ci + 1))[k]? = some 1) (hk : gK S a = ci + 1) (kk : XX C nL Q ce sl S (pc + 3) lv (.long (gL S a k) :: st)) : XX C nL Q ce sl S pc lv (.ref a :: st) := by
  obtain ⟨p, l, e, R, s, m, args, below, meth, c, D, cA, A, n0, ad0, ex⟩ := C
  intro ad H locs ls h0 ha hM hS hl hlo hso
  obtain ⟨f1, f2, f3, f4, f5, f6⟩ := hF
  have hkN : k < N := by rw [f6]; exact (List.getElem?_eq_some_iff.mp hft).1
  have he := hM.obj hk f5
  have hp := (hM.pos hk (Nat.succ_le_succ (Nat.zero_le _))).1
  have hv := fl_get (ad := ad) (S := S) (n := a) (ft (ci + 1)) 0 k 1 hft
  rw [Nat.zero_add] at hv
  have kz := kk ad H locs ls h0 ha hM hS hl hlo (sok_c trivial (sok_t hso))
  show W p l e R s m args below meth c H locs ce sl Q (F0 m pc ls (tv ad (.ref a) :: st.map (tv ad)))
  rw [tv_pos hp]
  have hsame : ∀ x, s.fieldFound? (T k).1 (T k).2.1 (T k).2.2.1 = some x → s.fieldFound? ref (T k).2.1 (T k).2.2.1 = some x := by
    rcases hL.2 with h | h
    · rw [h]; exact fun _ z => z
    · exact fun x z => u_same (hC.2.2.2.2.1 _ h) x z
  rcases hL.1 with h | ⟨host, h⟩
  · exact va_get hC.1 hC.2.1 hC.2.2.2.2.1 f2 hC.2.2.2.1 hC.2.2.2.2.2.1 hM.1 (a - 1) he f1 k hkN (hC.2.2.2.2.1 _ h) hsame hv hd kz
  · exact va_getN hC.1 hC.2.1 hC.2.2.2.2.1 f2 hC.2.2.2.1 hC.2.2.2.2.2.1 hM.1 (a - 1) he f1 k hkN (hC.2.2.2.2.2.2.2.2.1.use h) hsame hv hd kz
theorem x_getR (hC : CX C cc nL y rm) {ci k index a N : Nat} {CN ref : String} {T : u_T} {ty : Nat → FieldType} (hF : FC ci CN T N ty) (hL : FL y.cls index ref T k) (hd : decode cc pc = .ok (.getfield index, 3)) (hft : (ft (ci + 1))[k]? = some 2) (hk : gK S a = ci + 1) (kk : XX C nL Q ce sl S (pc + 3) lv (.ref (gR S a k) :: st)) : XX C nL Q ce sl S pc lv (.ref a :: st) := by
  obtain ⟨p, l, e, R, s, m, args, below, meth, c, D, cA, A, n0, ad0, ex⟩ := C
  intro ad H locs ls h0 ha hM hS hl hlo hso
  obtain ⟨f1, f2, f3, f4, f5, f6⟩ := hF
  have hkN : k < N := by rw [f6]; exact (List.getElem?_eq_some_iff.mp hft).1
  have he := hM.obj hk f5
  have hp := (hM.pos hk (Nat.succ_le_succ (Nat.zero_le _))).1
  have hv := fl_get (ad := ad) (S := S) (n := a) (ft (ci + 1)) 0 k 2 hft
  rw [Nat.zero_add] at hv
  have kz := kk ad H locs ls h0 ha hM hS hl hlo (sok_c (hM.2.2.2 a k) (sok_t hso))
  show W p l e R s m args below meth c H locs ce sl Q (F0 m pc ls (tv ad (.ref a) :: st.map (tv ad)))
  rw [tv_pos hp]
  have hsame : ∀ x, s.fieldFound? (T k).1 (T k).2.1 (T k).2.2.1 = some x → s.fieldFound? ref (T k).2.1 (T k).2.2.1 = some x := by
    rcases hL.2 with h | h
    · rw [h]; exact fun _ z => z
    · exact fun x z => u_same (hC.2.2.2.2.1 _ h) x z
  rcases hL.1 with h | ⟨host, h⟩
  · exact va_get hC.1 hC.2.1 hC.2.2.2.2.1 f2 hC.2.2.2.1 hC.2.2.2.2.2.1 hM.1 (a - 1) he f1 k hkN (hC.2.2.2.2.1 _ h) hsame hv hd kz
  · exact va_getN hC.1 hC.2.1 hC.2.2.2.2.1 f2 hC.2.2.2.1 hC.2.2.2.2.2.1 hM.1 (a - 1) he f1 k hkN (hC.2.2.2.2.2.2.2.2.1.use h) hsame hv hd kz
theorem x_putI (hC : CX C cc nL y rm) {ci k index a N : Nat} {v : Int32} {CN ref : String} {T : u_T} {ty : Nat → FieldType} (hF : FC ci CN T N ty) (hL : FL y.cls index ref T k) (hd : decode cc pc = .ok (.putfield index, 3)) (hft : (ft (ci + 1))[k]? = some 0) (hfin : (T k).2.2.2 = false) (hn : NF (ty k) v) (hk : gK S a = ci + 1) (kk : XX C nL Q ce sl (sI S a k v) (pc + 3) lv st) : XX C nL Q ce sl S pc lv (.int v :: .ref a :: st) := by
  obtain ⟨p, l, e, R, s, m, args, below, meth, c, D, cA, A, n0, ad0, ex⟩ := C
  intro ad H locs ls h0 ha hM hS hl hlo hso
  obtain ⟨f1, f2, f3, f4, f5, f6⟩ := hF
  have hkN : k < N := by rw [f6]; exact (List.getElem?_eq_some_iff.mp hft).1
  have he := hM.obj hk f5
  have hp := hM.pos hk (Nat.succ_le_succ (Nat.zero_le _))
  have hset := pw_sI (cA := cA) (ad := ad) (v := v) hp.1 hp.2 hk (by omega) hft
  have kz := fun H1 locs1 (g1 : va_P D vwCl (pw cA ad (sI S a k v)) H1) (g2 : va_D A (pw cA ad (sI S a k v))) (g3 : va_S A s.heap H1 locs1) => kk ad H1 locs1 ls h0 ha ⟨g1, g2, hM.2.2.1, hM.2.2.2⟩ g3 hl hlo (sok_t (sok_t hso))
  have hsame : ∀ x, s.fieldFound? (T k).1 (T k).2.1 (T k).2.2.1 = some x → s.fieldFound? ref (T k).2.1 (T k).2.2.1 = some x := by
    rcases hL.2 with h | h
    · rw [h]; exact fun _ z => z
    · exact fun x z => u_same (hC.2.2.2.2.1 _ h) x z
  show W p l e R s m args below meth c H locs ce sl Q (F0 m pc ls (tv ad (.int v) :: tv ad (.ref a) :: st.map (tv ad)))
  rw [tv_pos hp.1]
  rw [Nat.add_sub_cancel] at hset
  rcases hL.1 with h | ⟨host, h⟩
  · refine va_put (v := .int v) hC.1 hC.2.1 hC.2.2.2.2.1 f2 ty f3 f4 hC.2.2.2.1 hC.2.2.2.2.2.1 hM.1 hM.2.1 hS (a - 1) he f1 k hkN (hC.2.2.2.2.1 _ h) hsame hfin (f3 k hkN) hn.1 hn.2 (by rw [fl_len]; omega) hd (fun H1 locs1 g1 g2 g3 => ?_)
    rw [hset] at g1 g2
    exact kz H1 locs1 g1 g2 g3
  · refine va_putN (v := .int v) hC.1 hC.2.1 hC.2.2.2.2.1 f2 ty f3 f4 hC.2.2.2.1 hC.2.2.2.2.2.1 hM.1 hM.2.1 hS (a - 1) he f1 k hkN (hC.2.2.2.2.2.2.2.2.1.use h) hsame hfin (f3 k hkN) hn.1 hn.2 (by rw [fl_len]; omega) hd (fun H1 locs1 g1 g2 g3 => ?_)
    rw [hset] at g1 g2
    exact kz H1 locs1 g1 g2 g3
theorem x_putIF (hC : CX C cc nL y rm) {ci k index a N : Nat} {v : Int32} {CN ref : String} {T : u_T} {ty : Nat → FieldType} (hF : FC ci CN T N ty) (hL : (Cond.fieldLink y.cls index ref (T k).2.1 (T k).2.2.1) ∈ wt) (href : (T k).1 = ref) (hd : decode cc pc = .ok (.putfield index, 3)) (hft : (ft (ci + 1))[k]? = some 0) (hfin : (T k).2.2.2 = true) (hini : y.name = "<init>") (hdecl : (T k).1 = y.cls)(hn : NF (ty k) v) (hk : gK S a = ci + 1) (kk : XX C nL Q ce sl (sI S a k v) (pc + 3) lv st) : XX C nL Q ce sl S pc lv (.int v :: .ref a :: st) := by
  obtain ⟨p, l, e, R, s, m, args, below, meth, c, D, cA, A, n0, ad0, ex⟩ := C
  intro ad H locs ls h0 ha hM hS hl hlo hso
  obtain ⟨f1, f2, f3, f4, f5, f6⟩ := hF
  have hkN : k < N := by rw [f6]; exact (List.getElem?_eq_some_iff.mp hft).1
  have he := hM.obj hk f5
  have hp := hM.pos hk (Nat.succ_le_succ (Nat.zero_le _))
  have hset := pw_sI (cA := cA) (ad := ad) (v := v) hp.1 hp.2 hk (by omega) hft
  have kz := fun H1 locs1 (g1 : va_P D vwCl (pw cA ad (sI S a k v)) H1) (g2 : va_D A (pw cA ad (sI S a k v))) (g3 : va_S A s.heap H1 locs1) => kk ad H1 locs1 ls h0 ha ⟨g1, g2, hM.2.2.1, hM.2.2.2⟩ g3 hl hlo (sok_t (sok_t hso))
  have hsame : ∀ x, s.fieldFound? (T k).1 (T k).2.1 (T k).2.2.1 = some x → s.fieldFound? ref (T k).2.1 (T k).2.2.1 = some x := by
    rw [href]; exact fun _ z => z
  show W p l e R s m args below meth c H locs ce sl Q (F0 m pc ls (tv ad (.int v) :: tv ad (.ref a) :: st.map (tv ad)))
  rw [tv_pos hp.1]
  rw [Nat.add_sub_cancel] at hset
  refine va_putF (v := .int v) hC.1 hC.2.1 hC.2.2.2.2.1 f2 ty f3 f4 hC.2.2.2.1 hC.2.2.2.2.2.1 hM.1 hM.2.1 hS (a - 1) he f1 k hkN (hC.2.2.2.2.1 _ hL) hsame hfin (hC.2.2.2.2.2.2.2.2.2.2.2.2.1.trans hini) hdecl (f3 k hkN) hn.1 hn.2 (by rw [fl_len]; omega) hd (fun H1 locs1 g1 g2 g3 => ?_)
  rw [hset] at g1 g2
  exact kz H1 locs1 g1 g2 g3
theorem x_putL (hC : CX C cc nL y rm) {ci k index a N : Nat} {v : Int64} {CN ref : String} {T : u_T} {ty : Nat → FieldType} (hF : FC ci CN T N ty) (hL : FL y.cls index ref T k) (hd : decode cc pc = .ok (.putfield index, 3)) (hft : (ft (ci + 1))[k]? = some 1) (hfin : (T k).2.2.2 = false) (hn : ty k = .long) (hk : gK S a = ci + 1) (kk : XX C nL Q ce sl (sL S a k v) (pc + 3) lv st) : XX C nL Q ce sl S pc lv (.long v :: .ref a :: st) := by
  obtain ⟨p, l, e, R, s, m, args, below, meth, c, D, cA, A, n0, ad0, ex⟩ := C
  intro ad H locs ls h0 ha hM hS hl hlo hso
  obtain ⟨f1, f2, f3, f4, f5, f6⟩ := hF
  have hkN : k < N := by rw [f6]; exact (List.getElem?_eq_some_iff.mp hft).1
  have he := hM.obj hk f5
  have hp := hM.pos hk (Nat.succ_le_succ (Nat.zero_le _))
  have hset := pw_sL (cA := cA) (ad := ad) (v := v) hp.1 hp.2 hk (by omega) hft
  have kz := fun H1 locs1 (g1 : va_P D vwCl (pw cA ad (sL S a k v)) H1) (g2 : va_D A (pw cA ad (sL S a k v))) (g3 : va_S A s.heap H1 locs1) => kk ad H1 locs1 ls h0 ha ⟨g1, g2, hM.2.2.1, hM.2.2.2⟩ g3 hl hlo (sok_t (sok_t hso))
  have hsame : ∀ x, s.fieldFound? (T k).1 (T k).2.1 (T k).2.2.1 = some x → s.fieldFound? ref (T k).2.1 (T k).2.2.1 = some x := by
    rcases hL.2 with h | h
    · rw [h]; exact fun _ z => z
    · exact fun x z => u_same (hC.2.2.2.2.1 _ h) x z
  show W p l e R s m args below meth c H locs ce sl Q (F0 m pc ls (tv ad (.long v) :: tv ad (.ref a) :: st.map (tv ad)))
  rw [tv_pos hp.1]
  rw [Nat.add_sub_cancel] at hset
  rcases hL.1 with h | ⟨host, h⟩
  · refine va_put (v := .long v) hC.1 hC.2.1 hC.2.2.2.2.1 f2 ty f3 f4 hC.2.2.2.1 hC.2.2.2.2.2.1 hM.1 hM.2.1 hS (a - 1) he f1 k hkN (hC.2.2.2.2.1 _ h) hsame hfin (f3 k hkN) (by rw [hn]; rfl) (by rw [hn]; rfl) (by rw [fl_len]; omega) hd (fun H1 locs1 g1 g2 g3 => ?_)
    rw [hset] at g1 g2
    exact kz H1 locs1 g1 g2 g3
  · refine va_putN (v := .long v) hC.1 hC.2.1 hC.2.2.2.2.1 f2 ty f3 f4 hC.2.2.2.1 hC.2.2.2.2.2.1 hM.1 hM.2.1 hS (a - 1) he f1 k hkN (hC.2.2.2.2.2.2.2.2.1.use h) hsame hfin (f3 k hkN) (by rw [hn]; rfl) (by rw [hn]; rfl) (by rw [fl_len]; omega) hd (fun H1 locs1 g1 g2 g3 => ?_)
    rw [hset] at g1 g2
    exact kz H1 locs1 g1 g2 g3
theorem x_putLF (hC : CX C cc nL y rm) {ci k index a N : Nat} {v : Int64} {CN ref : String} {T : u_T} {ty : Nat → FieldType} (hF : FC ci CN T N ty) (hL : (Cond.fieldLink y.cls index ref (T k).2.1 (T k).2.2.1) ∈ wt) (href : (T k).1 = ref) (hd : decode cc pc = .ok (.putfield index, 3)) (hft : (ft (ci + 1))[k]? = some 1) (hfin : (T k).2.2.2 = true) (hini : y.name = "<init>") (hdecl : (T k).1 = y.cls)(hn : ty k = .long) (hk : gK S a = ci + 1) (kk : XX C nL Q ce sl (sL S a k v) (pc + 3) lv st) : XX C nL Q ce sl S pc lv (.long v :: .ref a :: st) := by
  obtain ⟨p, l, e, R, s, m, args, below, meth, c, D, cA, A, n0, ad0, ex⟩ := C
  intro ad H locs ls h0 ha hM hS hl hlo hso
  obtain ⟨f1, f2, f3, f4, f5, f6⟩ := hF
  have hkN : k < N := by rw [f6]; exact (List.getElem?_eq_some_iff.mp hft).1
  have he := hM.obj hk f5
  have hp := hM.pos hk (Nat.succ_le_succ (Nat.zero_le _))
  have hset := pw_sL (cA := cA) (ad := ad) (v := v) hp.1 hp.2 hk (by omega) hft
  have kz := fun H1 locs1 (g1 : va_P D vwCl (pw cA ad (sL S a k v)) H1) (g2 : va_D A (pw cA ad (sL S a k v))) (g3 : va_S A s.heap H1 locs1) => kk ad H1 locs1 ls h0 ha ⟨g1, g2, hM.2.2.1, hM.2.2.2⟩ g3 hl hlo (sok_t (sok_t hso))
  have hsame : ∀ x, s.fieldFound? (T k).1 (T k).2.1 (T k).2.2.1 = some x → s.fieldFound? ref (T k).2.1 (T k).2.2.1 = some x := by
    rw [href]; exact fun _ z => z
  show W p l e R s m args below meth c H locs ce sl Q (F0 m pc ls (tv ad (.long v) :: tv ad (.ref a) :: st.map (tv ad)))
  rw [tv_pos hp.1]
  rw [Nat.add_sub_cancel] at hset
  refine va_putF (v := .long v) hC.1 hC.2.1 hC.2.2.2.2.1 f2 ty f3 f4 hC.2.2.2.1 hC.2.2.2.2.2.1 hM.1 hM.2.1 hS (a - 1) he f1 k hkN (hC.2.2.2.2.1 _ hL) hsame hfin (hC.2.2.2.2.2.2.2.2.2.2.2.2.1.trans hini) hdecl (f3 k hkN) (by rw [hn]; rfl) (by rw [hn]; rfl) (by rw [fl_len]; omega) hd (fun H1 locs1 g1 g2 g3 => ?_)
  rw [hset] at g1 g2
  exact kz H1 locs1 g1 g2 g3
theorem x_putR (hC : CX C cc nL y rm) {ci k index a N : Nat} {v : Nat} {CN ref : String} {T : u_T} {ty : Nat → FieldType} (hF : FC ci CN T N ty) (hL : FL y.cls index ref T k) (hd : decode cc pc = .ok (.putfield index, 3)) (hft : (ft (ci + 1))[k]? = some 2) (hfin : (T k).2.2.2 = false) (hn : (∃ n, ty k = .object n) ∨ ∃ t, ty k = .array t) (hk : gK S a = ci + 1) (kk : XX C nL Q ce sl (sR S a k v) (pc + 3) lv st) : XX C nL Q ce sl S pc lv (.ref v :: .ref a :: st) := by
  obtain ⟨p, l, e, R, s, m, args, below, meth, c, D, cA, A, n0, ad0, ex⟩ := C
  intro ad H locs ls h0 ha hM hS hl hlo hso
  obtain ⟨f1, f2, f3, f4, f5, f6⟩ := hF
  have hkN : k < N := by rw [f6]; exact (List.getElem?_eq_some_iff.mp hft).1
  have he := hM.obj hk f5
  have hp := hM.pos hk (Nat.succ_le_succ (Nat.zero_le _))
  have hset := pw_sR (cA := cA) (ad := ad) (v := v) hp.1 hp.2 hk (by omega) hft
  have kz := fun H1 locs1 (g1 : va_P D vwCl (pw cA ad (sR S a k v)) H1) (g2 : va_D A (pw cA ad (sR S a k v))) (g3 : va_S A s.heap H1 locs1) => kk ad H1 locs1 ls h0 ha ⟨g1, g2, hM.2.2.1, WF_R hM.2.2.2 (sok_h hso)⟩ g3 hl hlo (sok_t (sok_t hso))
  have hsame : ∀ x, s.fieldFound? (T k).1 (T k).2.1 (T k).2.2.1 = some x → s.fieldFound? ref (T k).2.1 (T k).2.2.1 = some x := by
    rcases hL.2 with h | h
    · rw [h]; exact fun _ z => z
    · exact fun x z => u_same (hC.2.2.2.2.1 _ h) x z
  show W p l e R s m args below meth c H locs ce sl Q (F0 m pc ls (tv ad (.ref v) :: tv ad (.ref a) :: st.map (tv ad)))
  rw [tv_pos hp.1]
  rw [Nat.add_sub_cancel] at hset
  rcases hL.1 with h | ⟨host, h⟩
  · refine va_put (v := rv ad v) hC.1 hC.2.1 hC.2.2.2.2.1 f2 ty f3 f4 hC.2.2.2.1 hC.2.2.2.2.2.1 hM.1 hM.2.1 hS (a - 1) he f1 k hkN (hC.2.2.2.2.1 _ h) hsame hfin (f3 k hkN) (by rcases hn with ⟨n, e⟩ | ⟨t, e⟩ <;> rw [e] <;> (unfold rv ro; split <;> rfl)) (by rcases hn with ⟨n, e⟩ | ⟨t, e⟩ <;> rw [e] <;> (unfold rv ro; split <;> rfl)) (by rw [fl_len]; omega) hd (fun H1 locs1 g1 g2 g3 => ?_)
    rw [hset] at g1 g2
    exact kz H1 locs1 g1 g2 g3
  · refine va_putN (v := rv ad v) hC.1 hC.2.1 hC.2.2.2.2.1 f2 ty f3 f4 hC.2.2.2.1 hC.2.2.2.2.2.1 hM.1 hM.2.1 hS (a - 1) he f1 k hkN (hC.2.2.2.2.2.2.2.2.1.use h) hsame hfin (f3 k hkN) (by rcases hn with ⟨n, e⟩ | ⟨t, e⟩ <;> rw [e] <;> (unfold rv ro; split <;> rfl)) (by rcases hn with ⟨n, e⟩ | ⟨t, e⟩ <;> rw [e] <;> (unfold rv ro; split <;> rfl)) (by rw [fl_len]; omega) hd (fun H1 locs1 g1 g2 g3 => ?_)
    rw [hset] at g1 g2
    exact kz H1 locs1 g1 g2 g3
theorem x_putRF (hC : CX C cc nL y rm) {ci k index a N : Nat} {v : Nat} {CN ref : String} {T : u_T} {ty : Nat → FieldType} (hF : FC ci CN T N ty) (hL : (Cond.fieldLink y.cls index ref (T k).2.1 (T k).2.2.1) ∈ wt) (href : (T k).1 = ref) (hd : decode cc pc = .ok (.putfield index, 3)) (hft : (ft (ci + 1))[k]? = some 2) (hfin : (T k).2.2.2 = true) (hini : y.name = "<init>") (hdecl : (T k).1 = y.cls)(hn : (∃ n, ty k = .object n) ∨ ∃ t, ty k = .array t) (hk : gK S a = ci + 1) (kk : XX C nL Q ce sl (sR S a k v) (pc + 3) lv st) : XX C nL Q ce sl S pc lv (.ref v :: .ref a :: st) := by
  obtain ⟨p, l, e, R, s, m, args, below, meth, c, D, cA, A, n0, ad0, ex⟩ := C
  intro ad H locs ls h0 ha hM hS hl hlo hso
  obtain ⟨f1, f2, f3, f4, f5, f6⟩ := hF
  have hkN : k < N := by rw [f6]; exact (List.getElem?_eq_some_iff.mp hft).1
  have he := hM.obj hk f5
  have hp := hM.pos hk (Nat.succ_le_succ (Nat.zero_le _))
  have hset := pw_sR (cA := cA) (ad := ad) (v := v) hp.1 hp.2 hk (by omega) hft
  have kz := fun H1 locs1 (g1 : va_P D vwCl (pw cA ad (sR S a k v)) H1) (g2 : va_D A (pw cA ad (sR S a k v))) (g3 : va_S A s.heap H1 locs1) => kk ad H1 locs1 ls h0 ha ⟨g1, g2, hM.2.2.1, WF_R hM.2.2.2 (sok_h hso)⟩ g3 hl hlo (sok_t (sok_t hso))
  have hsame : ∀ x, s.fieldFound? (T k).1 (T k).2.1 (T k).2.2.1 = some x → s.fieldFound? ref (T k).2.1 (T k).2.2.1 = some x := by
    rw [href]; exact fun _ z => z
  show W p l e R s m args below meth c H locs ce sl Q (F0 m pc ls (tv ad (.ref v) :: tv ad (.ref a) :: st.map (tv ad)))
  rw [tv_pos hp.1]
  rw [Nat.add_sub_cancel] at hset
  refine va_putF (v := rv ad v) hC.1 hC.2.1 hC.2.2.2.2.1 f2 ty f3 f4 hC.2.2.2.1 hC.2.2.2.2.2.1 hM.1 hM.2.1 hS (a - 1) he f1 k hkN (hC.2.2.2.2.1 _ hL) hsame hfin (hC.2.2.2.2.2.2.2.2.2.2.2.2.1.trans hini) hdecl (f3 k hkN) (by rcases hn with ⟨n, e⟩ | ⟨t, e⟩ <;> rw [e] <;> (unfold rv ro; split <;> rfl)) (by rcases hn with ⟨n, e⟩ | ⟨t, e⟩ <;> rw [e] <;> (unfold rv ro; split <;> rfl)) (by rw [fl_len]; omega) hd (fun H1 locs1 g1 g2 g3 => ?_)
  rw [hset] at g1 g2
  exact kz H1 locs1 g1 g2 g3
theorem x_iald (hC : CX C cc nL y rm) {a : Nat} {i : Int32} (hd : decode cc pc = .ok (.iaload, 1)) (hk : gK S a = 30) (hin : ¬ (i < 0 ∨ gZ S a ≤ i.toNatClampNeg)) (kk : XX C nL Q ce sl S (pc + 1) lv (.int (gI S a i.toNatClampNeg) :: st)) : XX C nL Q ce sl S pc lv (.int i :: .ref a :: st) := by
  obtain ⟨p, l, e, R, s, m, args, below, meth, c, D, cA, A, n0, ad0, ex⟩ := C
  intro ad H locs ls h0 ha hM hS hl hlo hso
  have he := hM.arr hk (by omega)
  rw [ca_I (by omega)] at he
  have hp := (hM.pos hk (by omega)).1
  show W p l e R s m args below meth c H locs ce sl Q (F0 m pc ls (.int i :: tv ad (.ref a) :: st.map (tv ad)))
  rw [tv_pos hp]
  exact va_iald hC.1 hC.2.1 hC.2.2.2.2.2.1 hM.1 (a - 1) 0 he rfl hin hd (kk ad H locs ls h0 ha hM hS hl hlo (sok_c trivial (sok_t (sok_t hso))))
theorem x_iast (hC : CX C cc nL y rm) {a : Nat} {i v : Int32} (hd : decode cc pc = .ok (.iastore, 1)) (hk : gK S a = 30) (hin : ¬ (i < 0 ∨ gZ S a ≤ i.toNatClampNeg)) (kk : XX C nL Q ce sl (sI S a i.toNatClampNeg v) (pc + 1) lv st) : XX C nL Q ce sl S pc lv (.int v :: .int i :: .ref a :: st) := by
  obtain ⟨p, l, e, R, s, m, args, below, meth, c, D, cA, A, n0, ad0, ex⟩ := C
  intro ad H locs ls h0 ha hM hS hl hlo hso
  have he := hM.arr hk (by omega)
  rw [ca_I (by omega)] at he
  have hp := hM.pos hk (by omega)
  show W p l e R s m args below meth c H locs ce sl Q (F0 m pc ls (.int v :: .int i :: tv ad (.ref a) :: st.map (tv ad)))
  rw [tv_pos hp.1]
  refine va_iast hC.1 hC.2.1 hC.2.2.2.2.2.1 hM.1 hM.2.1 hS (a - 1) 0 he rfl hin hd (fun H1 locs1 g1 g2 g3 => ?_)
  · have hset := pw_aI (cA := cA) (ad := ad) (k := i.toNatClampNeg) (v := v) hp.1 hp.2 hk (by omega) (by omega)
    rw [hset] at g1 g2
    exact kk ad H1 locs1 ls h0 ha ⟨g1, g2, hM.2.2.1, hM.2.2.2⟩ g3 hl hlo (sok_t (sok_t (sok_t hso)))
theorem x_cald (hC : CX C cc nL y rm) {a : Nat} {i : Int32} (hd : decode cc pc = .ok (.caload, 1)) (hk : gK S a = 31) (hin : ¬ (i < 0 ∨ gZ S a ≤ i.toNatClampNeg)) (kk : XX C nL Q ce sl S (pc + 1) lv (.int (gI S a i.toNatClampNeg) :: st)) : XX C nL Q ce sl S pc lv (.int i :: .ref a :: st) := by
  obtain ⟨p, l, e, R, s, m, args, below, meth, c, D, cA, A, n0, ad0, ex⟩ := C
  intro ad H locs ls h0 ha hM hS hl hlo hso
  have he := hM.arr hk (by omega)
  rw [ca_I (by omega)] at he
  have hp := (hM.pos hk (by omega)).1
  show W p l e R s m args below meth c H locs ce sl Q (F0 m pc ls (.int i :: tv ad (.ref a) :: st.map (tv ad)))
  rw [tv_pos hp]
  exact va_cald hC.1 hC.2.1 hC.2.2.2.2.2.1 hM.1 (a - 1) 1 he rfl hin hd (kk ad H locs ls h0 ha hM hS hl hlo (sok_c trivial (sok_t (sok_t hso))))
theorem x_cast (hC : CX C cc nL y rm) {a : Nat} {i v : Int32} (hd : decode cc pc = .ok (.castore, 1)) (hn : narrow .char (.int v) = .int v) (hk : gK S a = 31) (hin : ¬ (i < 0 ∨ gZ S a ≤ i.toNatClampNeg)) (kk : XX C nL Q ce sl (sI S a i.toNatClampNeg v) (pc + 1) lv st) : XX C nL Q ce sl S pc lv (.int v :: .int i :: .ref a :: st) := by
  obtain ⟨p, l, e, R, s, m, args, below, meth, c, D, cA, A, n0, ad0, ex⟩ := C
  intro ad H locs ls h0 ha hM hS hl hlo hso
  have he := hM.arr hk (by omega)
  rw [ca_I (by omega)] at he
  have hp := hM.pos hk (by omega)
  show W p l e R s m args below meth c H locs ce sl Q (F0 m pc ls (.int v :: .int i :: tv ad (.ref a) :: st.map (tv ad)))
  rw [tv_pos hp.1]
  refine va_cast hC.1 hC.2.1 hC.2.2.2.2.2.1 hM.1 hM.2.1 hS (a - 1) 1 he rfl hin hd (fun H1 locs1 g1 g2 g3 => ?_)
  · have hset := pw_aI (cA := cA) (ad := ad) (k := i.toNatClampNeg) (v := v) hp.1 hp.2 hk (by omega) (by omega)
    have en : vp_nar .char v = v := by unfold vp_nar; rw [hn]
    rw [en] at g1 g2
    rw [hset] at g1 g2
    exact kk ad H1 locs1 ls h0 ha ⟨g1, g2, hM.2.2.1, hM.2.2.2⟩ g3 hl hlo (sok_t (sok_t (sok_t hso)))
theorem x_zald (hC : CX C cc nL y rm) {a : Nat} {i : Int32} (hd : decode cc pc = .ok (.baload, 1)) (hk : gK S a = 32) (hin : ¬ (i < 0 ∨ gZ S a ≤ i.toNatClampNeg)) (kk : XX C nL Q ce sl S (pc + 1) lv (.int (gI S a i.toNatClampNeg) :: st)) : XX C nL Q ce sl S pc lv (.int i :: .ref a :: st) := by
  obtain ⟨p, l, e, R, s, m, args, below, meth, c, D, cA, A, n0, ad0, ex⟩ := C
  intro ad H locs ls h0 ha hM hS hl hlo hso
  have he := hM.arr hk (by omega)
  rw [ca_I (by omega)] at he
  have hp := (hM.pos hk (by omega)).1
  show W p l e R s m args below meth c H locs ce sl Q (F0 m pc ls (.int i :: tv ad (.ref a) :: st.map (tv ad)))
  rw [tv_pos hp]
  exact va_zald hC.1 hC.2.1 hC.2.2.2.2.2.1 hM.1 (a - 1) 2 he rfl hin hd (kk ad H locs ls h0 ha hM hS hl hlo (sok_c trivial (sok_t (sok_t hso))))
theorem x_zast (hC : CX C cc nL y rm) {a : Nat} {i v : Int32} (hd : decode cc pc = .ok (.bastore, 1)) (hn : narrow .boolean (.int v) = .int v) (hk : gK S a = 32) (hin : ¬ (i < 0 ∨ gZ S a ≤ i.toNatClampNeg)) (kk : XX C nL Q ce sl (sI S a i.toNatClampNeg v) (pc + 1) lv st) : XX C nL Q ce sl S pc lv (.int v :: .int i :: .ref a :: st) := by
  obtain ⟨p, l, e, R, s, m, args, below, meth, c, D, cA, A, n0, ad0, ex⟩ := C
  intro ad H locs ls h0 ha hM hS hl hlo hso
  have he := hM.arr hk (by omega)
  rw [ca_I (by omega)] at he
  have hp := hM.pos hk (by omega)
  show W p l e R s m args below meth c H locs ce sl Q (F0 m pc ls (.int v :: .int i :: tv ad (.ref a) :: st.map (tv ad)))
  rw [tv_pos hp.1]
  refine va_zast hC.1 hC.2.1 hC.2.2.2.2.2.1 hM.1 hM.2.1 hS (a - 1) 2 he rfl hin hd (fun H1 locs1 g1 g2 g3 => ?_)
  · have hset := pw_aI (cA := cA) (ad := ad) (k := i.toNatClampNeg) (v := v) hp.1 hp.2 hk (by omega) (by omega)
    have en : vp_nar .boolean v = v := by unfold vp_nar; rw [hn]
    rw [en] at g1 g2
    rw [hset] at g1 g2
    exact kk ad H1 locs1 ls h0 ha ⟨g1, g2, hM.2.2.1, hM.2.2.2⟩ g3 hl hlo (sok_t (sok_t (sok_t hso)))
theorem x_yald (hC : CX C cc nL y rm) {a : Nat} {i : Int32} (hd : decode cc pc = .ok (.baload, 1)) (hk : gK S a = 33) (hin : ¬ (i < 0 ∨ gZ S a ≤ i.toNatClampNeg)) (kk : XX C nL Q ce sl S (pc + 1) lv (.int (gI S a i.toNatClampNeg) :: st)) : XX C nL Q ce sl S pc lv (.int i :: .ref a :: st) := by
  obtain ⟨p, l, e, R, s, m, args, below, meth, c, D, cA, A, n0, ad0, ex⟩ := C
  intro ad H locs ls h0 ha hM hS hl hlo hso
  have he := hM.arr hk (by omega)
  rw [ca_I (by omega)] at he
  have hp := (hM.pos hk (by omega)).1
  show W p l e R s m args below meth c H locs ce sl Q (F0 m pc ls (.int i :: tv ad (.ref a) :: st.map (tv ad)))
  rw [tv_pos hp]
  exact va_bald hC.1 hC.2.1 hC.2.2.2.2.2.1 hM.1 (a - 1) 3 he rfl hin hd (kk ad H locs ls h0 ha hM hS hl hlo (sok_c trivial (sok_t (sok_t hso))))
theorem x_yast (hC : CX C cc nL y rm) {a : Nat} {i v : Int32} (hd : decode cc pc = .ok (.bastore, 1)) (hn : narrow .byte (.int v) = .int v) (hk : gK S a = 33) (hin : ¬ (i < 0 ∨ gZ S a ≤ i.toNatClampNeg)) (kk : XX C nL Q ce sl (sI S a i.toNatClampNeg v) (pc + 1) lv st) : XX C nL Q ce sl S pc lv (.int v :: .int i :: .ref a :: st) := by
  obtain ⟨p, l, e, R, s, m, args, below, meth, c, D, cA, A, n0, ad0, ex⟩ := C
  intro ad H locs ls h0 ha hM hS hl hlo hso
  have he := hM.arr hk (by omega)
  rw [ca_I (by omega)] at he
  have hp := hM.pos hk (by omega)
  show W p l e R s m args below meth c H locs ce sl Q (F0 m pc ls (.int v :: .int i :: tv ad (.ref a) :: st.map (tv ad)))
  rw [tv_pos hp.1]
  refine va_bast hC.1 hC.2.1 hC.2.2.2.2.2.1 hM.1 hM.2.1 hS (a - 1) 3 he rfl hin hd (fun H1 locs1 g1 g2 g3 => ?_)
  · have hset := pw_aI (cA := cA) (ad := ad) (k := i.toNatClampNeg) (v := v) hp.1 hp.2 hk (by omega) (by omega)
    have en : vp_nar .byte v = v := by unfold vp_nar; rw [hn]
    rw [en] at g1 g2
    rw [hset] at g1 g2
    exact kk ad H1 locs1 ls h0 ha ⟨g1, g2, hM.2.2.1, hM.2.2.2⟩ g3 hl hlo (sok_t (sok_t (sok_t hso)))
theorem x_lald (hC : CX C cc nL y rm) {a : Nat} {i : Int32} (hd : decode cc pc = .ok (.laload, 1)) (hk : gK S a = 38) (hin : ¬ (i < 0 ∨ gZ S a ≤ i.toNatClampNeg)) (kk : XX C nL Q ce sl S (pc + 1) lv (.long (gL S a i.toNatClampNeg) :: st)) : XX C nL Q ce sl S pc lv (.int i :: .ref a :: st) := by
  obtain ⟨p, l, e, R, s, m, args, below, meth, c, D, cA, A, n0, ad0, ex⟩ := C
  intro ad H locs ls h0 ha hM hS hl hlo hso
  have he := hM.arr hk (by omega)
  rw [ca_L] at he
  have hp := (hM.pos hk (by omega)).1
  show W p l e R s m args below meth c H locs ce sl Q (F0 m pc ls (.int i :: tv ad (.ref a) :: st.map (tv ad)))
  rw [tv_pos hp]
  exact va_lald hC.1 hC.2.1 hC.2.2.2.2.2.1 hM.1 (a - 1) 8 he rfl hin hd (kk ad H locs ls h0 ha hM hS hl hlo (sok_c trivial (sok_t (sok_t hso))))
theorem x_last (hC : CX C cc nL y rm) {a : Nat} {i : Int32} {v : Int64} (hd : decode cc pc = .ok (.lastore, 1)) (hk : gK S a = 38) (hin : ¬ (i < 0 ∨ gZ S a ≤ i.toNatClampNeg)) (kk : XX C nL Q ce sl (sL S a i.toNatClampNeg v) (pc + 1) lv st) : XX C nL Q ce sl S pc lv (.long v :: .int i :: .ref a :: st) := by
  obtain ⟨p, l, e, R, s, m, args, below, meth, c, D, cA, A, n0, ad0, ex⟩ := C
  intro ad H locs ls h0 ha hM hS hl hlo hso
  have he := hM.arr hk (by omega)
  rw [ca_L] at he
  have hp := hM.pos hk (by omega)
  show W p l e R s m args below meth c H locs ce sl Q (F0 m pc ls (.long v :: .int i :: tv ad (.ref a) :: st.map (tv ad)))
  rw [tv_pos hp.1]
  refine va_last hC.1 hC.2.1 hC.2.2.2.2.2.1 hM.1 hM.2.1 hS (a - 1) 8 he rfl hin hd (fun H1 locs1 g1 g2 g3 => ?_)
  have hset := pw_aL (cA := cA) (ad := ad) (k := i.toNatClampNeg) (v := v) hp.1 hp.2 hk
  rw [hset] at g1 g2
  exact kk ad H1 locs1 ls h0 ha ⟨g1, g2, hM.2.2.1, hM.2.2.2⟩ g3 hl hlo (sok_t (sok_t (sok_t hso)))
theorem x_rald (hC : CX C cc nL y rm) {a kd t0 : Nat} {i : Int32} {E : String} (hd : decode cc pc = .ok (.aaload, 1)) (hk : gK S a = kd) (hkd : 34 ≤ kd ∧ kd ≠ 38 ∧ kd ≠ 39) (ht : ∀ cA, (tyA cA)[t0]? = some (cA kd, .object E)) (hin : ¬ (i < 0 ∨ gZ S a ≤ i.toNatClampNeg)) (kk : XX C nL Q ce sl S (pc + 1) lv (.ref (gR S a i.toNatClampNeg) :: st)) : XX C nL Q ce sl S pc lv (.int i :: .ref a :: st) := by
  obtain ⟨p, l, e, R, s, m, args, below, meth, c, D, cA, A, n0, ad0, ex⟩ := C
  intro ad H locs ls h0 ha hM hS hl hlo hso
  have he := hM.arr hk (by omega)
  have hp := (hM.pos hk (by omega)).1
  rw [ca_R hkd] at he
  show W p l e R s m args below meth c H locs ce sl Q (F0 m pc ls (.int i :: tv ad (.ref a) :: st.map (tv ad)))
  rw [tv_pos hp]
  exact va_aldq hC.1 hC.2.1 hC.2.2.2.2.2.1 hM.1 (a - 1) t0 he (ht cA) hin hd (kk ad H locs ls h0 ha hM hS hl hlo (sok_c (hM.2.2.2 _ _) (sok_t (sok_t hso))))
theorem x_rast (hC : CX C cc nL y rm) {a v kd t0 ci : Nat} {i : Int32} {E CN : String} {T : u_T} {N : Nat} {ty : Nat → FieldType} (hF : FC ci CN T N ty) (hd : decode cc pc = .ok (.aastore, 1)) (hk : gK S a = kd) (hkd : 34 ≤ kd ∧ kd ≠ 38 ∧ kd ≠ 39) (ht : ∀ cA, (tyA cA)[t0]? = some (cA kd, .object E)) (hE : CN = E ∨ Cond.castable CN E ∈ wn) (hkv : gK S v = ci + 1) (hin : ¬ (i < 0 ∨ gZ S a ≤ i.toNatClampNeg)) (kk : XX C nL Q ce sl (sR S a i.toNatClampNeg v) (pc + 1) lv st) : XX C nL Q ce sl S pc lv (.ref v :: .int i :: .ref a :: st) := by
  obtain ⟨p, l, e, R, s, m, args, below, meth, c, D, cA, A, n0, ad0, ex⟩ := C
  intro ad H locs ls h0 ha hM hS hl hlo hso
  obtain ⟨f1, f2, f3, f4, f5, f6⟩ := hF
  have he := hM.arr hk (by omega)
  have hev := hM.obj hkv f5
  have hp := hM.pos hk (by omega)
  have hpv := hM.pos hkv (Nat.succ_le_succ (Nat.zero_le _))
  rw [ca_R hkd] at he
  show W p l e R s m args below meth c H locs ce sl Q (F0 m pc ls (tv ad (.ref v) :: .int i :: tv ad (.ref a) :: st.map (tv ad)))
  rw [tv_pos hp.1, tv_pos hpv.1]
  have hset := pw_aR (cA := cA) (ad := ad) (k := i.toNatClampNeg) (v := v) hp.1 hp.2 hk (by omega) hkd.2.1 hkd.2.2
  have er : ro ad v = some (ad v) := by unfold ro; rw [if_neg (by omega)]
  rw [er] at hset
  have kz := fun H1 locs1 (g1 : va_P D vwCl (pw cA ad (sR S a i.toNatClampNeg v)) H1) (g2 : va_D A (pw cA ad (sR S a i.toNatClampNeg v))) (g3 : va_S A s.heap H1 locs1) => kk ad H1 locs1 ls h0 ha ⟨g1, g2, hM.2.2.1, WF_R hM.2.2.2 (Or.inl hpv.2)⟩ g3 hl hlo (sok_t (sok_t (sok_t hso)))
  rcases hE with h | h
  · subst h
    refine va_astq (r := (CN, T, N)) hC.1 hC.2.1 hC.2.2.2.2.2.1 hM.1 hM.2.1 hS (a - 1) t0 (v - 1) ci he (ht cA) hev f1 hin hd (fun H1 locs1 g1 g2 g3 => ?_)
    rw [hset] at g1 g2
    exact kz H1 locs1 g1 g2 g3
  · refine va_astqO (r := (CN, T, N)) hC.1 hC.2.1 hC.2.2.2.2.2.1 hM.1 hM.2.1 hS (a - 1) t0 (v - 1) ci he (ht cA) (hC.2.2.2.2.2.2.2.2.1.1 _ h) hev f1 hin hd (fun H1 locs1 g1 g2 g3 => ?_)
    rw [hset] at g1 g2
    exact kz H1 locs1 g1 g2 g3
theorem x_alen (hC : CX C cc nL y rm) {a kd t0 : Nat} {ty : FieldType} (hd : decode cc pc = .ok (.arraylength, 1)) (hk : gK S a = kd) (hkd : 30 ≤ kd) (ht : ∀ cA, (tyA cA)[t0]? = some (cA kd, ty)) (kk : XX C nL Q ce sl S (pc + 1) lv (.int (Int32.ofNat (gZ S a)) :: st)) : XX C nL Q ce sl S pc lv (.ref a :: st) := by
  obtain ⟨p, l, e, R, s, m, args, below, meth, c, D, cA, A, n0, ad0, ex⟩ := C
  intro ad H locs ls h0 ha hM hS hl hlo hso
  have he := hM.arr hk hkd
  have hp := (hM.pos hk (by omega)).1
  show W p l e R s m args below meth c H locs ce sl Q (F0 m pc ls (tv ad (.ref a) :: st.map (tv ad)))
  rw [tv_pos hp]
  exact va_alen hC.1 hC.2.1 hC.2.2.2.2.2.1 hM.1 (a - 1) t0 he (ht cA) rfl hd (kk ad H locs ls h0 ha hM hS hl hlo (sok_c trivial (sok_t hso)))
theorem x_rastN (hC : CX C cc nL y rm) {a kd t0 : Nat} {i : Int32} {E : String} (hd : decode cc pc = .ok (.aastore, 1)) (hk : gK S a = kd) (hkd : 34 ≤ kd ∧ kd ≠ 38 ∧ kd ≠ 39) (ht : ∀ cA, (tyA cA)[t0]? = some (cA kd, .object E)) (hin : ¬ (i < 0 ∨ gZ S a ≤ i.toNatClampNeg)) (kk : XX C nL Q ce sl (sR S a i.toNatClampNeg 0) (pc + 1) lv st) : XX C nL Q ce sl S pc lv (.ref 0 :: .int i :: .ref a :: st) := by
  obtain ⟨p, l, e, R, s, m, args, below, meth, c, D, cA, A, n0, ad0, ex⟩ := C
  intro ad H locs ls h0 ha hM hS hl hlo hso
  have he := hM.arr hk (by omega)
  have hp := hM.pos hk (by omega)
  rw [ca_R hkd] at he
  show W p l e R s m args below meth c H locs ce sl Q (F0 m pc ls (.null :: .int i :: tv ad (.ref a) :: st.map (tv ad)))
  rw [tv_pos hp.1]
  have hset := pw_aR (cA := cA) (ad := ad) (k := i.toNatClampNeg) (v := 0) hp.1 hp.2 hk (by omega) hkd.2.1 hkd.2.2
  refine va_astqN hC.1 hC.2.1 hC.2.2.2.2.2.1 hM.1 hM.2.1 hS (a - 1) t0 he (ht cA) hin hd (fun H1 locs1 g1 g2 g3 => ?_)
  rw [show (none : Option Nat) = ro ad 0 from rfl, hset] at g1 g2
  exact kk ad H1 locs1 ls h0 ha ⟨g1, g2, hM.2.2.1, WF_R hM.2.2.2 (Or.inl (Nat.zero_le _))⟩ g3 hl hlo (sok_t (sok_t (sok_t hso)))
end ROWB
