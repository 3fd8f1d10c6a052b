section ROWN
theorem up_new {α : Type} {ad : Nat → α} {N n : Nat} {q : α} (h : n ≤ N) : va_up ad (N + 1) q n = ad n := by
  unfold va_up
  rw [if_neg (by omega)]
theorem ag_new {ad : Nat → Nat} {N q : Nat} (hkb : N + 1 < KB) : AG N (va_up ad (N + 1) q) ad := fun n hn => by
  unfold va_up
  rw [if_neg]
  rcases hn with h | h
  · omega
  · omega
theorem ro_new {ad : Nat → Nat} {N q r : Nat} (hkb : N + 1 < KB) (h : rK N r) : ro (va_up ad (N + 1) q) r = ro ad r := by
  unfold ro
  rw [ag_new hkb r h]
theorem rv_new {ad : Nat → Nat} {N q r : Nat} (hkb : N + 1 < KB) (h : rK N r) : rv (va_up ad (N + 1) q) r = rv ad r := by
  unfold rv
  rw [ro_new hkb h]
theorem ce_new {cA : Nat → ClassId} {ad : Nat → Nat} {S : mS} {kd z q m : Nat} (hkb : gN S + 1 < KB) (hR : ∀ n k, rK (gN S) (gR S n k)) (hm : m ≤ gN S) : ce cA (va_up ad (gN S + 1) q) (sW S kd z) m = ce cA ad S m := by
  have hne : m ≠ gN S + 1 := by omega
  have k1 : gK (sW S kd z) m = gK S m := by rw [gK_sW, if_neg hne]
  have k2 : gZ (sW S kd z) m = gZ S m := by rw [gZ_sW, if_neg hne]
  have i1 : ∀ k, gI (sW S kd z) m k = gI S m k := fun k => by rw [gI_sW, if_neg hne]
  have i2 : ∀ k, gL (sW S kd z) m k = gL S m k := fun k => by rw [gL_sW, if_neg hne]
  have i3 : ∀ k, gR (sW S kd z) m k = gR S m k := fun k => by rw [gR_sW, if_neg hne]
  have i4 : ∀ k, gD (sW S kd z) m k = gD S m k := fun k => by rw [gD_sW, if_neg hne]
  have e1 : ∀ cs, fl (va_up ad (gN S + 1) q) (sW S kd z) m 0 cs = fl ad S m 0 cs := fun cs => fl_eq cs 0 (fun j _ c => by simp only [fv, i1, i2, i3, rv_new hkb (hR m j)])
  have e2 : ∀ kk, ca (va_up ad (gN S + 1) q) (sW S kd z) m kk = ca ad S m kk := fun kk => by simp only [ca, i1, i2, i3, i4, ro_new hkb (hR m _)]
  unfold ce
  rw [k1, k2, e1, e2]
theorem pw_new {cA : Nat → ClassId} {ad : Nat → Nat} {S : mS} {kd z q : Nat} (hkb : gN S + 1 < KB) (hR : ∀ n k, rK (gN S) (gR S n k)) : pw cA (va_up ad (gN S + 1) q) (sW S kd z) = pw cA ad S ++ [(q, ce cA (va_up ad (gN S + 1) q) (sW S kd z) (gN S + 1))] := by
  show (List.range (gN S + 1)).map _ = _
  rw [List.range_succ, List.map_append]
  congr 1
  · unfold pw
    apply List.map_congr_left
    intro j hj
    have hj := List.mem_range.mp hj
    rw [ce_new hkb hR (by omega), up_new (by omega)]
  · simp [va_up]
theorem fl_new {ad : Nat → Nat} {S : mS} {n : Nat} (h1 : ∀ k, gI S n k = 0) (h2 : ∀ k, gL S n k = 0) (h3 : ∀ k, gR S n k = 0) (cs : List Nat) : ∀ k, fl ad S n k cs = cs.map (fun c => if c = 0 then Value.int 0 else if c = 1 then .long 0 else .null) := by
  induction cs with
  | nil => intro k; rfl
  | cons a r ih =>
    intro k
    simp only [fl, List.map_cons, ih, fv, h1, h2, h3, rv_0]
theorem sW_I {S : mS} {kd z : Nat} (k : Nat) : gI (sW S kd z) (gN S + 1) k = 0 := by rw [gI_sW, if_pos rfl]
theorem sW_L {S : mS} {kd z : Nat} (k : Nat) : gL (sW S kd z) (gN S + 1) k = 0 := by rw [gL_sW, if_pos rfl]
theorem sW_R {S : mS} {kd z : Nat} (k : Nat) : gR (sW S kd z) (gN S + 1) k = 0 := by rw [gR_sW, if_pos rfl]
theorem sW_D {S : mS} {kd z : Nat} (k : Nat) : gD (sW S kd z) (gN S + 1) k = 0 := by rw [gD_sW, if_pos rfl]
theorem sW_K {S : mS} {kd z : Nat} : gK (sW S kd z) (gN S + 1) = kd := by rw [gK_sW, if_pos rfl]
theorem sW_Z {S : mS} {kd z : Nat} : gZ (sW S kd z) (gN S + 1) = z := by rw [gZ_sW, if_pos rfl]
theorem MM.new {D : va_G} {cl : List vw_C} {cA : Nat → ClassId} {ad : Nat → Nat} {A : Nat → Prop} {S : mS} {H H1 : Heap} {q kd z : Nat} (h : MM D cl cA ad A S H) (hP : va_P D cl (pw cA (va_up ad (gN S + 1) q) (sW S kd z)) H1) (hD : va_D A (pw cA (va_up ad (gN S + 1) q) (sW S kd z))) : MM D cl cA (va_up ad (gN S + 1) q) A (sW S kd z) H1 := by
  refine ⟨hP, hD, fun n hn => ?_, fun n k => ?_⟩
  · show 1 ≤ n ∧ n ≤ gN S + 1
    by_cases e : n = gN S + 1
    · omega
    · have : gK S n ≠ 0 := by
        intro h0
        apply hn
        rw [gK_sW, if_neg e]
        exact h0
      have := h.2.2.1 n this
      omega
  · show rK (gN S + 1) (gR (sW S kd z) n k)
    by_cases e : n = gN S + 1
    · subst e
      rw [sW_R]
      exact Or.inl (Nat.zero_le _)
    · have : gR (sW S kd z) n k = gR S n k := by rw [gR_sW, if_neg e]
      rw [this]
      exact (h.2.2.2 n k).elim (fun z => Or.inl (Nat.le_succ_of_le z)) Or.inr
def FN (ci : Nat) (ty : Nat → FieldType) (N : Nat) : Prop := ∀ j, j < N → defaultValue (ty j) = vp_V ((ft (ci + 1)).map (fun c => if c = 0 then Value.int 0 else if c = 1 then .long 0 else .null)) j
variable {C : cT} {cc : ByteArray} {nL : Nat} {y : MethodName} {rm : Room} {Q : State → Prop} {cs sl : Nat} {S : mS} {pc : Nat} {lv : List (Nat × Value)} {st : List Value}

theorem x_new (hC : CX C cc nL y rm) {ci index N : Nat} {CN : String} {T : u_T} {ty : Nat → FieldType} (hF : FC ci CN T N ty) (hN : FN ci ty N) (hL : Cond.classLink y.cls index CN ∈ wt) (hI : Cond.instantiable CN N ∈ wt) (hJ : Cond.initialized CN ∈ wt) (hd : decode cc pc = .ok (.new index, 3)) (hkb : gN S + 1 < KB) (hc : cs + 1 ≤ rm.cells) (hs : sl + N ≤ rm.slots) (kk : XX C nL Q (cs + 1) (sl + N) (sW S (ci + 1) 0) (pc + 3) lv (.ref (gN S + 1) :: st)) : XX C nL Q cs sl S pc lv st := by
  obtain ⟨p, l, e, R, s, m, args, below, meth, c, D, cA, A, n0, ad0, ex⟩ := C
  intro ad H locs ls h0 ha hM hS hl hlo hso
  obtain ⟨f1, f2, f3, f4, f5, f6⟩ := hF
  have hR : R = rm := hC.2.2.2.2.2.2.2.2.2.2.2.1
  refine va_new hC.1 hC.2.1 hC.2.2.2.2.1 f2 ty f3 hC.2.2.2.1 (hC.2.2.2.2.1 _ hL) (hC.2.2.2.2.1 _ hI) (hC.2.2.2.2.1 _ hJ) hC.2.2.2.2.2.1 hM.1 hM.2.1 hS hC.2.2.2.2.2.2.1 f1 hN (by rw [hR]; exact hc) (by rw [hR]; exact hs) hd (fun q H1 g1 g2 g3 => ?_)
  have ec : ce cA (va_up ad (gN S + 1) q) (sW S (ci + 1) 0) (gN S + 1) = .inr (ci, (ft (ci + 1)).map (fun c => if c = 0 then Value.int 0 else if c = 1 then .long 0 else .null)) := by
    rw [ce_obj sW_K (by omega), fl_new sW_I sW_L sW_R]
    rfl
  rw [← ec, ← pw_new hkb hM.2.2.2] at g1 g2
  have hup : AG (gN S) (va_up ad (gN S + 1) q) ad := ag_new hkb
  have k9 := kk (va_up ad (gN S + 1) q) H1 locs ls (Nat.le_succ_of_le h0) (hup.tr h0 ha) (hM.new g1 g2) g3 (by rw [tvl_eq hup hlo]; exact hl) (fun x hx => vok_mono (Nat.le_succ _) (hlo x hx)) (sok_c (Or.inl (Nat.le_refl _)) (fun x hx => vok_mono (Nat.le_succ _) (hso x hx)))
  rw [List.map_cons, tvs_eq hup hso, tv_pos (Nat.succ_le_succ (Nat.zero_le _))] at k9
  have eq : va_up ad (gN S + 1) q (gN S + 1) = q := by simp [va_up]
  rw [eq] at k9
  exact k9
theorem x_newaI (hC : CX C cc nL y rm) {n : Int32} {z : Nat} (hJ : Cond.arrayClass .int ∈ wt) (hd : decode cc pc = .ok (.newarray .int, 2)) (hn : ¬ n < 0) (hz : n.toNatClampNeg = z) (hb : z ≤ 65536) (hkb : gN S + 1 < KB) (hc : cs + 1 ≤ rm.cells) (hs : sl + z ≤ rm.slots) (kk : XX C nL Q (cs + 1) (sl + z) (sW S 30 z) (pc + 2) lv (.ref (gN S + 1) :: st)) : XX C nL Q cs sl S pc lv (.int n :: st) := by
  obtain ⟨p, l, e, R, s, m, args, below, meth, c, D, cA, A, n0, ad0, ex⟩ := C
  intro ad H locs ls h0 ha hM hS hl hlo hso
  have hR : R = rm := hC.2.2.2.2.2.2.2.2.2.2.2.1
  refine va_newa (atype := .int) (ty := .int) (a0 := (z, .inl (fun _ => 0))) hC.1 hC.2.1 (hC.2.2.2.2.1 _ hJ) rfl hC.2.2.2.2.2.1 hM.1 hM.2.1 hS hC.2.2.2.2.2.2.1 (fun _ => rfl) hn hz (by show z * _ ≤ _; simp only [componentBytes]; omega) (by rw [hR]; exact hc) (by rw [hR]; exact hs) hd (fun q cA1 H1 g0 g1 g2 g3 => ?_)
  have hcls : cA1 = cA 30 := by
    have r1 : va_RA s cA1 .int := (g0.2 (tyA cA).length (cA1, .int) (by simp [tyA])).2
    have r2 : va_RA s (cA 30) .int := (hC.2.2.2.2.2.1.2 0 (cA 30, .int) rfl).2
    exact Option.some.inj (r1.symm.trans r2)
  subst hcls
  have ec : ce cA (va_up ad (gN S + 1) q) (sW S 30 z) (gN S + 1) = .inl (cA 30, z, .inl (fun _ => 0)) := by
    rw [ce_arr sW_K (by omega), ca_I (by omega), sW_Z]
    simp only [sW_I]
  rw [← ec, ← pw_new hkb hM.2.2.2] at g1 g2
  have hup : AG (gN S) (va_up ad (gN S + 1) q) ad := ag_new hkb
  have k9 := kk (va_up ad (gN S + 1) q) H1 locs ls (Nat.le_succ_of_le h0) (hup.tr h0 ha) (hM.new g1 g2) g3 (by rw [tvl_eq hup hlo]; exact hl) (fun x hx => vok_mono (Nat.le_succ _) (hlo x hx)) (sok_c (Or.inl (Nat.le_refl _)) (fun x hx => vok_mono (Nat.le_succ _) (sok_t hso x hx)))
  rw [List.map_cons, tvs_eq hup (sok_t hso), tv_pos (Nat.succ_le_succ (Nat.zero_le _))] at k9
  have eq : va_up ad (gN S + 1) q (gN S + 1) = q := by simp [va_up]
  rw [eq] at k9
  exact k9
theorem x_newaC (hC : CX C cc nL y rm) {n : Int32} {z : Nat} (hJ : Cond.arrayClass .char ∈ wt) (hd : decode cc pc = .ok (.newarray .char, 2)) (hn : ¬ n < 0) (hz : n.toNatClampNeg = z) (hb : z ≤ 65536) (hkb : gN S + 1 < KB) (hc : cs + 1 ≤ rm.cells) (hs : sl + z ≤ rm.slots) (kk : XX C nL Q (cs + 1) (sl + z) (sW S 31 z) (pc + 2) lv (.ref (gN S + 1) :: st)) : XX C nL Q cs sl S pc lv (.int n :: st) := by
  obtain ⟨p, l, e, R, s, m, args, below, meth, c, D, cA, A, n0, ad0, ex⟩ := C
  intro ad H locs ls h0 ha hM hS hl hlo hso
  have hR : R = rm := hC.2.2.2.2.2.2.2.2.2.2.2.1
  refine va_newa (atype := .char) (ty := .char) (a0 := (z, .inl (fun _ => 0))) hC.1 hC.2.1 (hC.2.2.2.2.1 _ hJ) rfl hC.2.2.2.2.2.1 hM.1 hM.2.1 hS hC.2.2.2.2.2.2.1 (fun _ => rfl) hn hz (by show z * _ ≤ _; simp only [componentBytes]; omega) (by rw [hR]; exact hc) (by rw [hR]; exact hs) hd (fun q cA1 H1 g0 g1 g2 g3 => ?_)
  have hcls : cA1 = cA 31 := by
    have r1 : va_RA s cA1 .char := (g0.2 (tyA cA).length (cA1, .char) (by simp [tyA])).2
    have r2 : va_RA s (cA 31) .char := (hC.2.2.2.2.2.1.2 1 (cA 31, .char) rfl).2
    exact Option.some.inj (r1.symm.trans r2)
  subst hcls
  have ec : ce cA (va_up ad (gN S + 1) q) (sW S 31 z) (gN S + 1) = .inl (cA 31, z, .inl (fun _ => 0)) := by
    rw [ce_arr sW_K (by omega), ca_I (by omega), sW_Z]
    simp only [sW_I]
  rw [← ec, ← pw_new hkb hM.2.2.2] at g1 g2
  have hup : AG (gN S) (va_up ad (gN S + 1) q) ad := ag_new hkb
  have k9 := kk (va_up ad (gN S + 1) q) H1 locs ls (Nat.le_succ_of_le h0) (hup.tr h0 ha) (hM.new g1 g2) g3 (by rw [tvl_eq hup hlo]; exact hl) (fun x hx => vok_mono (Nat.le_succ _) (hlo x hx)) (sok_c (Or.inl (Nat.le_refl _)) (fun x hx => vok_mono (Nat.le_succ _) (sok_t hso x hx)))
  rw [List.map_cons, tvs_eq hup (sok_t hso), tv_pos (Nat.succ_le_succ (Nat.zero_le _))] at k9
  have eq : va_up ad (gN S + 1) q (gN S + 1) = q := by simp [va_up]
  rw [eq] at k9
  exact k9
theorem x_newaZ (hC : CX C cc nL y rm) {n : Int32} {z : Nat} (hJ : Cond.arrayClass .boolean ∈ wt) (hd : decode cc pc = .ok (.newarray .boolean, 2)) (hn : ¬ n < 0) (hz : n.toNatClampNeg = z) (hb : z ≤ 65536) (hkb : gN S + 1 < KB) (hc : cs + 1 ≤ rm.cells) (hs : sl + z ≤ rm.slots) (kk : XX C nL Q (cs + 1) (sl + z) (sW S 32 z) (pc + 2) lv (.ref (gN S + 1) :: st)) : XX C nL Q cs sl S pc lv (.int n :: st) := by
  obtain ⟨p, l, e, R, s, m, args, below, meth, c, D, cA, A, n0, ad0, ex⟩ := C
  intro ad H locs ls h0 ha hM hS hl hlo hso
  have hR : R = rm := hC.2.2.2.2.2.2.2.2.2.2.2.1
  refine va_newa (atype := .boolean) (ty := .boolean) (a0 := (z, .inl (fun _ => 0))) hC.1 hC.2.1 (hC.2.2.2.2.1 _ hJ) rfl hC.2.2.2.2.2.1 hM.1 hM.2.1 hS hC.2.2.2.2.2.2.1 (fun _ => rfl) hn hz (by show z * _ ≤ _; simp only [componentBytes]; omega) (by rw [hR]; exact hc) (by rw [hR]; exact hs) hd (fun q cA1 H1 g0 g1 g2 g3 => ?_)
  have hcls : cA1 = cA 32 := by
    have r1 : va_RA s cA1 .boolean := (g0.2 (tyA cA).length (cA1, .boolean) (by simp [tyA])).2
    have r2 : va_RA s (cA 32) .boolean := (hC.2.2.2.2.2.1.2 2 (cA 32, .boolean) rfl).2
    exact Option.some.inj (r1.symm.trans r2)
  subst hcls
  have ec : ce cA (va_up ad (gN S + 1) q) (sW S 32 z) (gN S + 1) = .inl (cA 32, z, .inl (fun _ => 0)) := by
    rw [ce_arr sW_K (by omega), ca_I (by omega), sW_Z]
    simp only [sW_I]
  rw [← ec, ← pw_new hkb hM.2.2.2] at g1 g2
  have hup : AG (gN S) (va_up ad (gN S + 1) q) ad := ag_new hkb
  have k9 := kk (va_up ad (gN S + 1) q) H1 locs ls (Nat.le_succ_of_le h0) (hup.tr h0 ha) (hM.new g1 g2) g3 (by rw [tvl_eq hup hlo]; exact hl) (fun x hx => vok_mono (Nat.le_succ _) (hlo x hx)) (sok_c (Or.inl (Nat.le_refl _)) (fun x hx => vok_mono (Nat.le_succ _) (sok_t hso x hx)))
  rw [List.map_cons, tvs_eq hup (sok_t hso), tv_pos (Nat.succ_le_succ (Nat.zero_le _))] at k9
  have eq : va_up ad (gN S + 1) q (gN S + 1) = q := by simp [va_up]
  rw [eq] at k9
  exact k9
theorem x_newaY (hC : CX C cc nL y rm) {n : Int32} {z : Nat} (hJ : Cond.arrayClass .byte ∈ wt) (hd : decode cc pc = .ok (.newarray .byte, 2)) (hn : ¬ n < 0) (hz : n.toNatClampNeg = z) (hb : z ≤ 65536) (hkb : gN S + 1 < KB) (hc : cs + 1 ≤ rm.cells) (hs : sl + z ≤ rm.slots) (kk : XX C nL Q (cs + 1) (sl + z) (sW S 33 z) (pc + 2) lv (.ref (gN S + 1) :: st)) : XX C nL Q cs sl S pc lv (.int n :: st) := by
  obtain ⟨p, l, e, R, s, m, args, below, meth, c, D, cA, A, n0, ad0, ex⟩ := C
  intro ad H locs ls h0 ha hM hS hl hlo hso
  have hR : R = rm := hC.2.2.2.2.2.2.2.2.2.2.2.1
  refine va_newa (atype := .byte) (ty := .byte) (a0 := (z, .inl (fun _ => 0))) hC.1 hC.2.1 (hC.2.2.2.2.1 _ hJ) rfl hC.2.2.2.2.2.1 hM.1 hM.2.1 hS hC.2.2.2.2.2.2.1 (fun _ => rfl) hn hz (by show z * _ ≤ _; simp only [componentBytes]; omega) (by rw [hR]; exact hc) (by rw [hR]; exact hs) hd (fun q cA1 H1 g0 g1 g2 g3 => ?_)
  have hcls : cA1 = cA 33 := by
    have r1 : va_RA s cA1 .byte := (g0.2 (tyA cA).length (cA1, .byte) (by simp [tyA])).2
    have r2 : va_RA s (cA 33) .byte := (hC.2.2.2.2.2.1.2 3 (cA 33, .byte) rfl).2
    exact Option.some.inj (r1.symm.trans r2)
  subst hcls
  have ec : ce cA (va_up ad (gN S + 1) q) (sW S 33 z) (gN S + 1) = .inl (cA 33, z, .inl (fun _ => 0)) := by
    rw [ce_arr sW_K (by omega), ca_I (by omega), sW_Z]
    simp only [sW_I]
  rw [← ec, ← pw_new hkb hM.2.2.2] at g1 g2
  have hup : AG (gN S) (va_up ad (gN S + 1) q) ad := ag_new hkb
  have k9 := kk (va_up ad (gN S + 1) q) H1 locs ls (Nat.le_succ_of_le h0) (hup.tr h0 ha) (hM.new g1 g2) g3 (by rw [tvl_eq hup hlo]; exact hl) (fun x hx => vok_mono (Nat.le_succ _) (hlo x hx)) (sok_c (Or.inl (Nat.le_refl _)) (fun x hx => vok_mono (Nat.le_succ _) (sok_t hso x hx)))
  rw [List.map_cons, tvs_eq hup (sok_t hso), tv_pos (Nat.succ_le_succ (Nat.zero_le _))] at k9
  have eq : va_up ad (gN S + 1) q (gN S + 1) = q := by simp [va_up]
  rw [eq] at k9
  exact k9
theorem x_newaL (hC : CX C cc nL y rm) {n : Int32} {z : Nat} (hJ : Cond.arrayClass .long ∈ wt) (hd : decode cc pc = .ok (.newarray .long, 2)) (hn : ¬ n < 0) (hz : n.toNatClampNeg = z) (hb : z ≤ 65536) (hkb : gN S + 1 < KB) (hc : cs + 1 ≤ rm.cells) (hs : sl + z ≤ rm.slots) (kk : XX C nL Q (cs + 1) (sl + z) (sW S 38 z) (pc + 2) lv (.ref (gN S + 1) :: st)) : XX C nL Q cs sl S pc lv (.int n :: st) := by
  obtain ⟨p, l, e, R, s, m, args, below, meth, c, D, cA, A, n0, ad0, ex⟩ := C
  intro ad H locs ls h0 ha hM hS hl hlo hso
  have hR : R = rm := hC.2.2.2.2.2.2.2.2.2.2.2.1
  refine va_newa (atype := .long) (ty := .long) (a0 := (z, .inr (.inl (fun _ => 0)))) hC.1 hC.2.1 (hC.2.2.2.2.1 _ hJ) rfl hC.2.2.2.2.2.1 hM.1 hM.2.1 hS hC.2.2.2.2.2.2.1 (fun _ => rfl) hn hz (by show z * _ ≤ _; simp only [componentBytes]; omega) (by rw [hR]; exact hc) (by rw [hR]; exact hs) hd (fun q cA1 H1 g0 g1 g2 g3 => ?_)
  have hcls : cA1 = cA 38 := by
    have r1 : va_RA s cA1 .long := (g0.2 (tyA cA).length (cA1, .long) (by simp [tyA])).2
    have r2 : va_RA s (cA 38) .long := (hC.2.2.2.2.2.1.2 8 (cA 38, .long) rfl).2
    exact Option.some.inj (r1.symm.trans r2)
  subst hcls
  have ec : ce cA (va_up ad (gN S + 1) q) (sW S 38 z) (gN S + 1) = .inl (cA 38, z, .inr (.inl (fun _ => 0))) := by
    rw [ce_arr sW_K (by omega), ca_L, sW_Z]
    simp only [sW_L]
  rw [← ec, ← pw_new hkb hM.2.2.2] at g1 g2
  have hup : AG (gN S) (va_up ad (gN S + 1) q) ad := ag_new hkb
  have k9 := kk (va_up ad (gN S + 1) q) H1 locs ls (Nat.le_succ_of_le h0) (hup.tr h0 ha) (hM.new g1 g2) g3 (by rw [tvl_eq hup hlo]; exact hl) (fun x hx => vok_mono (Nat.le_succ _) (hlo x hx)) (sok_c (Or.inl (Nat.le_refl _)) (fun x hx => vok_mono (Nat.le_succ _) (sok_t hso x hx)))
  rw [List.map_cons, tvs_eq hup (sok_t hso), tv_pos (Nat.succ_le_succ (Nat.zero_le _))] at k9
  have eq : va_up ad (gN S + 1) q (gN S + 1) = q := by simp [va_up]
  rw [eq] at k9
  exact k9
theorem x_newaD (hC : CX C cc nL y rm) {n : Int32} {z : Nat} (hJ : Cond.arrayClass .double ∈ wt) (hd : decode cc pc = .ok (.newarray .double, 2)) (hn : ¬ n < 0) (hz : n.toNatClampNeg = z) (hb : z ≤ 65536) (hkb : gN S + 1 < KB) (hc : cs + 1 ≤ rm.cells) (hs : sl + z ≤ rm.slots) (kk : XX C nL Q (cs + 1) (sl + z) (sW S 39 z) (pc + 2) lv (.ref (gN S + 1) :: st)) : XX C nL Q cs sl S pc lv (.int n :: st) := by
  obtain ⟨p, l, e, R, s, m, args, below, meth, c, D, cA, A, n0, ad0, ex⟩ := C
  intro ad H locs ls h0 ha hM hS hl hlo hso
  have hR : R = rm := hC.2.2.2.2.2.2.2.2.2.2.2.1
  refine va_newa (atype := .double) (ty := .double) (a0 := (z, .inr (.inr (.inr (.inl (fun _ => 0)))))) hC.1 hC.2.1 (hC.2.2.2.2.1 _ hJ) rfl hC.2.2.2.2.2.1 hM.1 hM.2.1 hS hC.2.2.2.2.2.2.1 (fun _ => rfl) hn hz (by show z * _ ≤ _; simp only [componentBytes]; omega) (by rw [hR]; exact hc) (by rw [hR]; exact hs) hd (fun q cA1 H1 g0 g1 g2 g3 => ?_)
  have hcls : cA1 = cA 39 := by
    have r1 : va_RA s cA1 .double := (g0.2 (tyA cA).length (cA1, .double) (by simp [tyA])).2
    have r2 : va_RA s (cA 39) .double := (hC.2.2.2.2.2.1.2 9 (cA 39, .double) rfl).2
    exact Option.some.inj (r1.symm.trans r2)
  subst hcls
  have ec : ce cA (va_up ad (gN S + 1) q) (sW S 39 z) (gN S + 1) = .inl (cA 39, z, .inr (.inr (.inr (.inl (fun _ => 0))))) := by
    rw [ce_arr sW_K (by omega), ca_D, sW_Z]
    simp only [sW_D]
  rw [← ec, ← pw_new hkb hM.2.2.2] at g1 g2
  have hup : AG (gN S) (va_up ad (gN S + 1) q) ad := ag_new hkb
  have k9 := kk (va_up ad (gN S + 1) q) H1 locs ls (Nat.le_succ_of_le h0) (hup.tr h0 ha) (hM.new g1 g2) g3 (by rw [tvl_eq hup hlo]; exact hl) (fun x hx => vok_mono (Nat.le_succ _) (hlo x hx)) (sok_c (Or.inl (Nat.le_refl _)) (fun x hx => vok_mono (Nat.le_succ _) (sok_t hso x hx)))
  rw [List.map_cons, tvs_eq hup (sok_t hso), tv_pos (Nat.succ_le_succ (Nat.zero_le _))] at k9
  have eq : va_up ad (gN S + 1) q (gN S + 1) = q := by simp [va_up]
  rw [eq] at k9
  exact k9
theorem x_newr (hC : CX C cc nL y rm) {n : Int32} {z kd t0 index : Nat} {E : String} (hL : Cond.classLink y.cls index E ∈ wt) (hJ : Cond.arrayOver (.object E) ∈ wn) (hkd : 34 ≤ kd ∧ kd ≠ 38 ∧ kd ≠ 39) (ht : ∀ cA, (tyA cA)[t0]? = some (cA kd, .object E)) (hd : decode cc pc = .ok (.anewarray index, 3)) (hn : ¬ n < 0) (hz : n.toNatClampNeg = z) (hb : z ≤ 65536) (hkb : gN S + 1 < KB) (hc : cs + 1 ≤ rm.cells) (hs : sl + z ≤ rm.slots) (kk : XX C nL Q (cs + 1) (sl + z) (sW S kd z) (pc + 3) lv (.ref (gN S + 1) :: st)) : XX C nL Q cs sl S pc lv (.int n :: st) := by
  obtain ⟨p, l, e, R, s, m, args, below, meth, c, D, cA, A, n0, ad0, ex⟩ := C
  intro ad H locs ls h0 ha hM hS hl hlo hso
  have hR : R = rm := hC.2.2.2.2.2.2.2.2.2.2.2.1
  refine va_newq hC.1 hC.2.1 hC.2.2.2.1 (hC.2.2.2.2.1 _ hL) (hC.2.2.2.2.2.2.2.2.1.1 _ hJ) hC.2.2.2.2.2.1 hM.1 hM.2.1 hS hC.2.2.2.2.2.2.1 hn hz (by omega) (by rw [hR]; exact hc) (by rw [hR]; exact hs) hd (fun q cA1 H1 g0 g1 g2 g3 => ?_)
  have hcls : cA1 = cA kd := by
    obtain ⟨_, _, _, _, _, r1⟩ : va_RA s cA1 (.object E) := (g0.2 (tyA cA).length (cA1, .object E) (by simp [tyA])).2
    obtain ⟨_, _, _, _, _, r2⟩ : va_RA s (cA kd) (.object E) := (hC.2.2.2.2.2.1.2 t0 (cA kd, .object E) (ht cA)).2
    exact Option.some.inj (r1.symm.trans r2)
  subst hcls
  have ec : ce cA (va_up ad (gN S + 1) q) (sW S kd z) (gN S + 1) = .inl (cA kd, z, .inr (.inr (.inr (.inr (fun _ => none))))) := by
    rw [ce_arr sW_K (by omega), ca_R hkd, sW_Z]
    simp only [sW_R]
    rfl
  rw [← ec, ← pw_new hkb hM.2.2.2] at g1 g2
  have hup : AG (gN S) (va_up ad (gN S + 1) q) ad := ag_new hkb
  have k9 := kk (va_up ad (gN S + 1) q) H1 locs ls (Nat.le_succ_of_le h0) (hup.tr h0 ha) (hM.new g1 g2) g3 (by rw [tvl_eq hup hlo]; exact hl) (fun x hx => vok_mono (Nat.le_succ _) (hlo x hx)) (sok_c (Or.inl (Nat.le_refl _)) (fun x hx => vok_mono (Nat.le_succ _) (sok_t hso x hx)))
  rw [List.map_cons, tvs_eq hup (sok_t hso), tv_pos (Nat.succ_le_succ (Nat.zero_le _))] at k9
  have eq : va_up ad (gN S + 1) q (gN S + 1) = q := by simp [va_up]
  rw [eq] at k9
  exact k9
theorem x_objInit (hC : CX C cc nL y rm) {a idx : Nat} (hL : Cond.methodLink y.cls idx Lib.objectInit ∈ wt) (hJ : Cond.instanceMethod Lib.objectInit ∈ wt) (hK : Cond.code Lib.objectInit ⟨#[0xb1]⟩ 1 none ∈ wt) (hd : decode cc pc = .ok (.invokespecial idx, 3)) (hp : gK S a ≠ 0) (hf : 1 ≤ rm.frames) (hlo9 : (st.map (fun v => v.category)).sum + 12 ≤ rm.locals) (kk : XX C nL Q cs sl S (pc + 3) lv st) : XX C nL Q cs sl S pc lv (.ref a :: st) := by
  obtain ⟨p, l, e, R, s, m, args, below, meth, c, D, cA, A, n0, ad0, ex⟩ := C
  intro ad H locs ls h0 ha hM hS hl hlo hso
  have hR : R = rm := hC.2.2.2.2.2.2.2.2.2.2.2.1
  have hp := (hM.2.2.1 a hp).1
  show W p l e R s m args below meth c H locs cs sl Q (F0 m pc ls (tv ad (.ref a) :: st.map (tv ad)))
  rw [tv_pos hp]
  have hcat : ((st.map (tv ad)).map fun v => v.category) = st.map (fun v => v.category) := by
    rw [List.map_map]
    apply List.map_congr_left
    intro v _
    exact tv_cat ad v
  refine W.objInit hC.1 hC.2.1 hC.2.2.2.1 (hC.2.2.2.2.1 _ hL) (hC.2.2.2.2.1 _ hJ) (hC.2.2.2.2.1 _ hK) rfl (by rw [hC.2.2.1]; exact hl.1) rfl hd (by rw [hR]; exact hf) (by rw [hR, hcat]; show 2 * 0 + _ + 12 ≤ _; omega) ?_
  exact kk ad H locs ls h0 ha hM hS hl hlo (sok_t hso)
end ROWN
