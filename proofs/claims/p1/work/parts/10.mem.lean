section MEM
def KB : Nat := 1000000000000
def rK (N r : Nat) : Prop := r ≤ N ∨ KB ≤ r
def nt {α : Type} (z : α) : List α → Nat → α
  | [], _ => z
  | a :: _, 0 => a
  | _ :: r, n + 1 => nt z r n
def pt {α : Type} (z : α) : List α → Nat → α → List α
  | [], 0, v => [v]
  | [], n + 1, v => z :: pt z [] n v
  | _ :: r, 0, v => v :: r
  | a :: r, n + 1, v => a :: pt z r n v
theorem nt_pt {α : Type} (z v : α) : ∀ (n k : Nat) (l : List α), nt z (pt z l n v) k = if k = n then v else nt z l k := by
  intro n
  induction n with
  | zero =>
    intro k l
    cases l with
    | nil => cases k <;> simp [nt, pt]
    | cons a r => cases k <;> simp [nt, pt]
  | succ n ih =>
    intro k l
    cases l with
    | nil =>
      cases k with
      | zero => simp [nt, pt]
      | succ k => simp only [nt, pt, ih, Nat.add_right_cancel_iff]
    | cons a r =>
      cases k with
      | zero => simp [nt, pt]
      | succ k => simp only [nt, pt, ih, Nat.add_right_cancel_iff]
abbrev mS : Type := List (List Int32) × List (List Int64) × List (List Nat) × List (List UInt64) × List Nat × List Nat × Nat
def gI (S : mS) (n k : Nat) : Int32 := nt 0 (nt [] S.1 n) k
def gL (S : mS) (n k : Nat) : Int64 := nt 0 (nt [] S.2.1 n) k
def gR (S : mS) (n k : Nat) : Nat := nt 0 (nt [] S.2.2.1 n) k
def gD (S : mS) (n k : Nat) : UInt64 := nt 0 (nt [] S.2.2.2.1 n) k
def gK (S : mS) (n : Nat) : Nat := nt 0 S.2.2.2.2.1 n
def gZ (S : mS) (n : Nat) : Nat := nt 0 S.2.2.2.2.2.1 n
def gN (S : mS) : Nat := S.2.2.2.2.2.2
def p2 {α : Type} (z : α) (l : List (List α)) (n k : Nat) (v : α) : List (List α) := pt [] l n (pt z (nt [] l n) k v)
theorem nt_p2 {α : Type} (z : α) (l : List (List α)) (n k : Nat) (v : α) (a b : Nat) : nt z (nt [] (p2 z l n k v) a) b = if a = n ∧ b = k then v else nt z (nt [] l a) b := by
  unfold p2
  rw [nt_pt]
  by_cases h : a = n
  · subst h
    rw [if_pos rfl, nt_pt]
    simp
  · rw [if_neg h, if_neg (fun q => h q.1)]
def sI (S : mS) (n k : Nat) (v : Int32) : mS := (p2 0 S.1 n k v, S.2.1, S.2.2.1, S.2.2.2.1, S.2.2.2.2.1, S.2.2.2.2.2.1, S.2.2.2.2.2.2)
def sL (S : mS) (n k : Nat) (v : Int64) : mS := (S.1, p2 0 S.2.1 n k v, S.2.2.1, S.2.2.2.1, S.2.2.2.2.1, S.2.2.2.2.2.1, S.2.2.2.2.2.2)
def sR (S : mS) (n k : Nat) (v : Nat) : mS := (S.1, S.2.1, p2 0 S.2.2.1 n k v, S.2.2.2.1, S.2.2.2.2.1, S.2.2.2.2.2.1, S.2.2.2.2.2.2)
def sD (S : mS) (n k : Nat) (v : UInt64) : mS := (S.1, S.2.1, S.2.2.1, p2 0 S.2.2.2.1 n k v, S.2.2.2.2.1, S.2.2.2.2.2.1, S.2.2.2.2.2.2)
def sW (S : mS) (kd z : Nat) : mS := (pt [] S.1 (gN S + 1) [], pt [] S.2.1 (gN S + 1) [], pt [] S.2.2.1 (gN S + 1) [], pt [] S.2.2.2.1 (gN S + 1) [], pt 0 S.2.2.2.2.1 (gN S + 1) kd, pt 0 S.2.2.2.2.2.1 (gN S + 1) z, gN S + 1)
theorem gI_sI (S : mS) (n k : Nat) (v : Int32) (a b : Nat) : gI (sI S n k v) a b = if a = n ∧ b = k then v else gI S a b := nt_p2 _ _ _ _ _ _ _
theorem gL_sL (S : mS) (n k : Nat) (v : Int64) (a b : Nat) : gL (sL S n k v) a b = if a = n ∧ b = k then v else gL S a b := nt_p2 _ _ _ _ _ _ _
theorem gR_sR (S : mS) (n k : Nat) (v : Nat) (a b : Nat) : gR (sR S n k v) a b = if a = n ∧ b = k then v else gR S a b := nt_p2 _ _ _ _ _ _ _
theorem gD_sD (S : mS) (n k : Nat) (v : UInt64) (a b : Nat) : gD (sD S n k v) a b = if a = n ∧ b = k then v else gD S a b := nt_p2 _ _ _ _ _ _ _
theorem gL_sI {S : mS} {n k : Nat} {v : Int32} : gL (sI S n k v) = gL S := rfl
theorem gR_sI {S : mS} {n k : Nat} {v : Int32} : gR (sI S n k v) = gR S := rfl
theorem gD_sI {S : mS} {n k : Nat} {v : Int32} : gD (sI S n k v) = gD S := rfl
theorem gI_sL {S : mS} {n k : Nat} {v : Int64} : gI (sL S n k v) = gI S := rfl
theorem gR_sL {S : mS} {n k : Nat} {v : Int64} : gR (sL S n k v) = gR S := rfl
theorem gD_sL {S : mS} {n k : Nat} {v : Int64} : gD (sL S n k v) = gD S := rfl
theorem gI_sR {S : mS} {n k : Nat} {v : Nat} : gI (sR S n k v) = gI S := rfl
theorem gL_sR {S : mS} {n k : Nat} {v : Nat} : gL (sR S n k v) = gL S := rfl
theorem gD_sR {S : mS} {n k : Nat} {v : Nat} : gD (sR S n k v) = gD S := rfl
theorem nt_nil {α : Type} (z : α) (k : Nat) : nt z [] k = z := rfl
theorem gI_sW (S : mS) (kd z a b : Nat) : gI (sW S kd z) a b = if a = gN S + 1 then 0 else gI S a b := by
  show nt 0 (nt [] (pt [] S.1 (gN S + 1) []) a) b = _
  rw [nt_pt]
  split <;> rfl
theorem gL_sW (S : mS) (kd z a b : Nat) : gL (sW S kd z) a b = if a = gN S + 1 then 0 else gL S a b := by
  show nt 0 (nt [] (pt [] S.2.1 (gN S + 1) []) a) b = _
  rw [nt_pt]
  split <;> rfl
theorem gR_sW (S : mS) (kd z a b : Nat) : gR (sW S kd z) a b = if a = gN S + 1 then 0 else gR S a b := by
  show nt 0 (nt [] (pt [] S.2.2.1 (gN S + 1) []) a) b = _
  rw [nt_pt]
  split <;> rfl
theorem gD_sW (S : mS) (kd z a b : Nat) : gD (sW S kd z) a b = if a = gN S + 1 then 0 else gD S a b := by
  show nt 0 (nt [] (pt [] S.2.2.2.1 (gN S + 1) []) a) b = _
  rw [nt_pt]
  split <;> rfl
theorem gK_sW (S : mS) (kd z a : Nat) : gK (sW S kd z) a = if a = gN S + 1 then kd else gK S a := nt_pt _ _ _ _ _
theorem gZ_sW (S : mS) (kd z a : Nat) : gZ (sW S kd z) a = if a = gN S + 1 then z else gZ S a := nt_pt _ _ _ _ _
def ro (ad : Nat → Nat) (r : Nat) : Option Nat := if r = 0 then none else some (ad r)
def rv (ad : Nat → Nat) (r : Nat) : Value := va_rf (ro ad r)
theorem rv_pos {ad : Nat → Nat} {r : Nat} (h : r ≠ 0) : rv ad r = .ref (ad r) := by simp [rv, ro, h, va_rf]
theorem rv_0 {ad : Nat → Nat} : rv ad 0 = .null := rfl
theorem rv_cat (ad : Nat → Nat) (r : Nat) : (rv ad r).category = 1 := by
  by_cases h : r = 0
  · subst h; rfl
  · rw [rv_pos h]; rfl
def fv (ad : Nat → Nat) (S : mS) (n k c : Nat) : Value := if c = 0 then .int (gI S n k) else if c = 1 then .long (gL S n k) else rv ad (gR S n k)
def fl (ad : Nat → Nat) (S : mS) (n : Nat) : Nat → List Nat → List Value
  | _, [] => []
  | k, c :: r => fv ad S n k c :: fl ad S n (k + 1) r
theorem fl_get {ad : Nat → Nat} {S : mS} {n : Nat} (cs : List Nat) : ∀ (k j c : Nat), cs[j]? = some c → (fl ad S n k cs)[j]? = some (fv ad S n (k + j) c) := by
  induction cs with
  | nil => intro k j c h; simp at h
  | cons a r ih =>
    intro k j c h
    cases j with
    | zero => simp at h; subst h; rfl
    | succ j =>
      have := ih (k + 1) j c (by simpa using h)
      rw [show k + (j + 1) = k + 1 + j from by omega]
      simpa [fl] using this
theorem fl_len {ad : Nat → Nat} {S : mS} {n : Nat} (cs : List Nat) : ∀ k, (fl ad S n k cs).length = cs.length := by
  induction cs with
  | nil => intro k; rfl
  | cons a r ih => intro k; simp [fl, ih]
theorem fl_eq {ad ad' : Nat → Nat} {S S' : mS} {n : Nat} (cs : List Nat) : ∀ k, (∀ j, k ≤ j → ∀ c, fv ad S n j c = fv ad' S' n j c) → fl ad S n k cs = fl ad' S' n k cs := by
  induction cs with
  | nil => intro k h; rfl
  | cons a r ih =>
    intro k h
    simp only [fl]
    rw [h k (Nat.le_refl _) a, ih (k + 1) (fun j hj c => h j (by omega) c)]
theorem fl_set {ad : Nat → Nat} {S S' : mS} {n : Nat} (cs : List Nat) : ∀ (k j c : Nat), cs[j]? = some c → (∀ i, i ≠ k + j → ∀ c, fv ad S n i c = fv ad S' n i c) → (fl ad S n k cs).set j (fv ad S' n (k + j) c) = fl ad S' n k cs := by
  induction cs with
  | nil => intro k j c h; simp at h
  | cons a r ih =>
    intro k j c h ho
    cases j with
    | zero =>
      simp at h
      subst h
      simp only [fl, List.set_cons_zero, Nat.add_zero]
      rw [fl_eq r (k + 1) (fun i hi c => ho i (by omega) c)]
    | succ j =>
      simp only [fl, List.set_cons_succ]
      rw [ho k (by omega) a, show k + (j + 1) = k + 1 + j from by omega, ih (k + 1) j c (by simpa using h) (fun i hi c => ho i (by omega) c)]
def ca (ad : Nat → Nat) (S : mS) (n kd : Nat) : (Nat → Int32) ⊕ (Nat → Int64) ⊕ (Nat → UInt32) ⊕ (Nat → UInt64) ⊕ (Nat → Option Nat) :=
  if kd < 34 then .inl (fun i => gI S n i) else if kd = 38 then .inr (.inl (fun i => gL S n i)) else if kd = 39 then .inr (.inr (.inr (.inl (fun i => gD S n i)))) else .inr (.inr (.inr (.inr (fun i => ro ad (gR S n i)))))
def ft : Nat → List Nat
  | 1 => [2, 0, 0, 0]
  | 2 => [2, 0, 0, 0]
  | 3 => [2, 2, 2, 2, 0, 2]
  | 4 => [0, 0, 0, 2]
  | 5 => [0, 2, 0]
  | 6 => [2, 2, 0, 0, 0]
  | 7 => [2, 2, 2, 1, 0, 0, 0, 0, 0, 0, 0, 1]
  | 8 => [0, 0, 0, 0, 0, 0, 0, 0, 0, 0, 0]
  | 9 => [0, 0, 0]
  | 10 => [2, 2]
  | 11 => [2, 0, 0]
  | 12 => [2, 2, 0, 0, 0]
  | 13 => [2, 2, 2, 2, 0, 0]
  | 14 => [2, 2, 2, 2, 0, 0, 0, 0, 0, 0, 0, 0, 1]
  | 15 => [2, 2, 2, 0, 0, 0]
  | 16 => [2, 2, 2, 2, 2, 0]
  | 17 => [2, 0, 0, 0, 0, 0, 2, 2, 2, 1, 1, 1, 1, 0, 0, 0]
  | 18 => [0, 0, 0, 0, 0, 0, 0, 0, 0, 1]
  | 19 => [0, 2, 2, 2, 2, 2, 2, 2, 0, 0, 0, 0, 0, 0, 0, 0, 0, 0, 1, 1, 2, 0, 0]
  | _ => []
def ce (cA : Nat → ClassId) (ad : Nat → Nat) (S : mS) (n : Nat) : va_E :=
  if gK S n < 30 then .inr (gK S n - 1, fl ad S n 0 (ft (gK S n))) else .inl (cA (gK S n), gZ S n, ca ad S n (gK S n))
theorem ce_obj {cA : Nat → ClassId} {ad : Nat → Nat} {S : mS} {n kd : Nat} (h : gK S n = kd) (hlt : kd < 30) : ce cA ad S n = .inr (kd - 1, fl ad S n 0 (ft kd)) := by
  subst h
  simp [ce, hlt]
theorem ce_arr {cA : Nat → ClassId} {ad : Nat → Nat} {S : mS} {n kd : Nat} (h : gK S n = kd) (hlt : ¬ kd < 30) : ce cA ad S n = .inl (cA kd, gZ S n, ca ad S n kd) := by
  subst h
  simp [ce, hlt]
def pw (cA : Nat → ClassId) (ad : Nat → Nat) (S : mS) : va_W := (List.range (gN S)).map (fun j => (ad (j + 1), ce cA ad S (j + 1)))
theorem pw_get {cA : Nat → ClassId} {ad : Nat → Nat} {S : mS} {n : Nat} (h1 : 1 ≤ n) (h2 : n ≤ gN S) : (pw cA ad S)[n - 1]? = some (ad n, ce cA ad S n) := by
  unfold pw
  rw [List.getElem?_map, List.getElem?_range (by omega)]
  simp only [Option.map_some]
  rw [show n - 1 + 1 = n from by omega]
theorem pw_len {cA : Nat → ClassId} {ad : Nat → Nat} {S : mS} : (pw cA ad S).length = gN S := by simp [pw]
theorem pw_set {cA : Nat → ClassId} {ad : Nat → Nat} {S S' : mS} {n : Nat} {e : va_E} (h1 : 1 ≤ n) (h2 : n ≤ gN S) (hN : gN S' = gN S) (he : ce cA ad S' n = e) (ho : ∀ m, m ≠ n → ce cA ad S' m = ce cA ad S m) : (pw cA ad S).set (n - 1) (ad n, e) = pw cA ad S' := by
  apply List.ext_getElem?
  intro i
  rw [List.getElem?_set, pw_len]
  by_cases hi : i < gN S
  · have a1 := pw_get (cA := cA) (ad := ad) (S := S) (n := i + 1) (by omega) (by omega)
    have a2 := pw_get (cA := cA) (ad := ad) (S := S') (n := i + 1) (by omega) (by omega)
    rw [Nat.add_sub_cancel] at a1 a2
    rw [a1, a2]
    by_cases hq : n - 1 = i
    · have hq2 : i + 1 = n := by omega
      rw [if_pos hq, if_pos (by omega), hq2, he]
    · rw [if_neg hq, ho (i + 1) (by omega)]
  · rw [List.getElem?_eq_none (by rw [pw_len]; omega), List.getElem?_eq_none (by rw [pw_len]; omega), if_neg (by omega)]
abbrev tyA (cA : Nat → ClassId) : List (ClassId × FieldType) := [(cA 30, .int), (cA 31, .char), (cA 32, .boolean), (cA 33, .byte), (cA 34, .object "MixBooth$Deck"), (cA 35, .object "MixBooth$Effect"), (cA 36, .object "MixBooth$Disc"), (cA 37, .object "MixBoothModel$Deck"), (cA 38, .long), (cA 39, .double), (cA 40, .object "java/lang/Object")]
def MM (D : va_G) (cl : List vw_C) (cA : Nat → ClassId) (ad : Nat → Nat) (A : Nat → Prop) (S : mS) (H : Heap) : Prop :=
  va_P D cl (pw cA ad S) H ∧ va_D A (pw cA ad S) ∧ (∀ n, gK S n ≠ 0 → 1 ≤ n ∧ n ≤ gN S) ∧ (∀ n k, rK (gN S) (gR S n k))
theorem MM.weaken {D : va_G} {cl : List vw_C} {cA : Nat → ClassId} {ad : Nat → Nat} {A B : Nat → Prop} {S : mS} {H : Heap} (h : MM D cl cA ad A S H) (hAB : ∀ q, A q → B q) : MM D cl cA ad B S H :=
  ⟨h.1, h.2.1.weaken (fun _ _ _ h => hAB _ h), h.2.2.1, h.2.2.2⟩
theorem MM.in {D : va_G} {cl : List vw_C} {cA : Nat → ClassId} {ad : Nat → Nat} {A : Nat → Prop} {S : mS} {H : Heap} (h : MM D cl cA ad A S H) {n : Nat} (h1 : 1 ≤ n) (h2 : n ≤ gN S) : A (ad n) := h.2.1.2 (n - 1) _ (pw_get h1 h2)
theorem MM.inj {D : va_G} {cl : List vw_C} {cA : Nat → ClassId} {ad : Nat → Nat} {A : Nat → Prop} {S : mS} {H : Heap} (h : MM D cl cA ad A S H) {a b : Nat} (ha : a ≤ gN S) (hb : b ≤ gN S) : ro ad a = ro ad b ↔ a = b := by
  constructor
  · intro q
    by_cases h0 : a = 0
    · by_cases h1 : b = 0
      · omega
      · simp [ro, h0, h1] at q
    · by_cases h1 : b = 0
      · simp [ro, h0, h1] at q
      · simp [ro, h0, h1] at q
        have := h.2.1.1 (a - 1) (b - 1) _ _ (pw_get (by omega) ha) (pw_get (by omega) hb) q
        omega
  · intro q; rw [q]
theorem MM.free {D : va_G} {cl : List vw_C} {cA : Nat → ClassId} {ad : Nat → Nat} {A : Nat → Prop} {S : mS} {H H0 : Heap} {locs : List Loc} (h : MM D cl cA ad A S H) (hS : va_S A H0 H locs) (hA : ∀ q, H0.size ≤ q → A q) : ∀ q, va_A (pw cA ad S) H.size q → A q := by
  intro q hq
  rcases hq with ⟨k, e, hk⟩ | hq
  · exact h.2.1.2 k _ hk
  · exact hA q (Nat.le_trans hS.1 hq)
theorem MM.self {D : va_G} {cl : List vw_C} {cA : Nat → ClassId} {ad : Nat → Nat} {A : Nat → Prop} {S : mS} {H : Heap} {sz : Nat} (h : MM D cl cA ad A S H) : MM D cl cA ad (va_A (pw cA ad S) sz) S H := ⟨h.1, h.2.1.self, h.2.2⟩
theorem va_A_congr {cA : Nat → ClassId} {ad : Nat → Nat} {S S' : mS} {sz : Nat} (hN : gN S' = gN S) : va_A (pw cA ad S') sz = va_A (pw cA ad S) sz := by
  funext q
  apply propext
  have key : ∀ (X Y : mS), gN X = gN Y → va_A (pw cA ad X) sz q → va_A (pw cA ad Y) sz q := by
    intro X Y hXY hq
    rcases hq with ⟨k, e, hk⟩ | hq
    · have hlt : k < gN X := by
        have := (List.getElem?_eq_some_iff.mp hk).1
        rwa [pw_len] at this
      have a1 := pw_get (cA := cA) (ad := ad) (S := X) (n := k + 1) (by omega) (by omega)
      have a2 := pw_get (cA := cA) (ad := ad) (S := Y) (n := k + 1) (by omega) (by omega)
      rw [Nat.add_sub_cancel] at a1 a2
      rw [a1] at hk
      cases hk
      exact Or.inl ⟨k, _, a2⟩
    · exact Or.inr hq
  exact ⟨key S' S hN, key S S' hN.symm⟩
theorem fv_sI {ad : Nat → Nat} {S : mS} {n k i c : Nat} {v : Int32} (h : i ≠ k) : fv ad S n i c = fv ad (sI S n k v) n i c := by
  simp [fv, gI_sI, gL_sI, gR_sI, h]
theorem fv_sL {ad : Nat → Nat} {S : mS} {n k i c : Nat} {v : Int64} (h : i ≠ k) : fv ad S n i c = fv ad (sL S n k v) n i c := by
  simp [fv, gL_sL, gI_sL, gR_sL, h]
theorem fv_sR {ad : Nat → Nat} {S : mS} {n k i c : Nat} {v : Nat} (h : i ≠ k) : fv ad S n i c = fv ad (sR S n k v) n i c := by
  simp [fv, gR_sR, gI_sR, gL_sR, h]
theorem ce_sI {cA : Nat → ClassId} {ad : Nat → Nat} {S : mS} {n k m : Nat} {v : Int32} (h : m ≠ n) : ce cA ad (sI S n k v) m = ce cA ad S m := by
  have e1 : ∀ cs, fl ad (sI S n k v) m 0 cs = fl ad S m 0 cs := fun cs => fl_eq cs 0 (fun j _ c => by simp [fv, gI_sI, gL_sI, gR_sI, h])
  have e2 : ca ad (sI S n k v) m (gK S m) = ca ad S m (gK S m) := by simp [ca, gI_sI, gL_sI, gR_sI, gD_sI, h]
  show (if gK S m < 30 then (Sum.inr (gK S m - 1, fl ad (sI S n k v) m 0 (ft (gK S m))) : va_E) else .inl (cA (gK S m), gZ S m, ca ad (sI S n k v) m (gK S m))) = _
  rw [e1, e2]
  rfl
theorem ce_sL {cA : Nat → ClassId} {ad : Nat → Nat} {S : mS} {n k m : Nat} {v : Int64} (h : m ≠ n) : ce cA ad (sL S n k v) m = ce cA ad S m := by
  have e1 : ∀ cs, fl ad (sL S n k v) m 0 cs = fl ad S m 0 cs := fun cs => fl_eq cs 0 (fun j _ c => by simp [fv, gL_sL, gI_sL, gR_sL, h])
  have e2 : ca ad (sL S n k v) m (gK S m) = ca ad S m (gK S m) := by simp [ca, gL_sL, gI_sL, gR_sL, gD_sL, h]
  show (if gK S m < 30 then (Sum.inr (gK S m - 1, fl ad (sL S n k v) m 0 (ft (gK S m))) : va_E) else .inl (cA (gK S m), gZ S m, ca ad (sL S n k v) m (gK S m))) = _
  rw [e1, e2]
  rfl
theorem ce_sR {cA : Nat → ClassId} {ad : Nat → Nat} {S : mS} {n k m : Nat} {v : Nat} (h : m ≠ n) : ce cA ad (sR S n k v) m = ce cA ad S m := by
  have e1 : ∀ cs, fl ad (sR S n k v) m 0 cs = fl ad S m 0 cs := fun cs => fl_eq cs 0 (fun j _ c => by simp [fv, gR_sR, gI_sR, gL_sR, h])
  have e2 : ca ad (sR S n k v) m (gK S m) = ca ad S m (gK S m) := by simp [ca, gR_sR, gI_sR, gL_sR, gD_sR, h]
  show (if gK S m < 30 then (Sum.inr (gK S m - 1, fl ad (sR S n k v) m 0 (ft (gK S m))) : va_E) else .inl (cA (gK S m), gZ S m, ca ad (sR S n k v) m (gK S m))) = _
  rw [e1, e2]
  rfl
theorem pw_sI {cA : Nat → ClassId} {ad : Nat → Nat} {S : mS} {n k kd : Nat} {v : Int32} (h1 : 1 ≤ n) (h2 : n ≤ gN S) (hk : gK S n = kd) (hlt : kd < 30) (hf : (ft kd)[k]? = some 0) : (pw cA ad S).set (n - 1) (ad n, .inr (kd - 1, (fl ad S n 0 (ft kd)).set k (.int v))) = pw cA ad (sI S n k v) := by
  refine pw_set h1 h2 rfl ?_ (fun m hm => ce_sI hm)
  rw [ce_obj (S := sI S n k v) (kd := kd) hk hlt]
  have e := fl_set (ad := ad) (S := S) (S' := sI S n k v) (n := n) (ft kd) 0 k 0 hf (fun i hi c => fv_sI (by omega))
  rw [← e, Nat.zero_add]
  simp [fv, gI_sI]
theorem pw_sL {cA : Nat → ClassId} {ad : Nat → Nat} {S : mS} {n k kd : Nat} {v : Int64} (h1 : 1 ≤ n) (h2 : n ≤ gN S) (hk : gK S n = kd) (hlt : kd < 30) (hf : (ft kd)[k]? = some 1) : (pw cA ad S).set (n - 1) (ad n, .inr (kd - 1, (fl ad S n 0 (ft kd)).set k (.long v))) = pw cA ad (sL S n k v) := by
  refine pw_set h1 h2 rfl ?_ (fun m hm => ce_sL hm)
  rw [ce_obj (S := sL S n k v) (kd := kd) hk hlt]
  have e := fl_set (ad := ad) (S := S) (S' := sL S n k v) (n := n) (ft kd) 0 k 1 hf (fun i hi c => fv_sL (by omega))
  rw [← e, Nat.zero_add]
  simp [fv, gL_sL]
theorem pw_sR {cA : Nat → ClassId} {ad : Nat → Nat} {S : mS} {n k kd : Nat} {v : Nat} (h1 : 1 ≤ n) (h2 : n ≤ gN S) (hk : gK S n = kd) (hlt : kd < 30) (hf : (ft kd)[k]? = some 2) : (pw cA ad S).set (n - 1) (ad n, .inr (kd - 1, (fl ad S n 0 (ft kd)).set k (rv ad v))) = pw cA ad (sR S n k v) := by
  refine pw_set h1 h2 rfl ?_ (fun m hm => ce_sR hm)
  rw [ce_obj (S := sR S n k v) (kd := kd) hk hlt]
  have e := fl_set (ad := ad) (S := S) (S' := sR S n k v) (n := n) (ft kd) 0 k 2 hf (fun i hi c => fv_sR (by omega))
  rw [← e, Nat.zero_add]
  simp [fv, gR_sR]
theorem pw_aI {cA : Nat → ClassId} {ad : Nat → Nat} {S : mS} {n k kd : Nat} {v : Int32} (h1 : 1 ≤ n) (h2 : n ≤ gN S) (hk : gK S n = kd) (hge : 30 ≤ kd) (hlt : kd < 34) : (pw cA ad S).set (n - 1) (ad n, .inl (cA kd, gZ S n, .inl (upd (fun i => gI S n i) k v))) = pw cA ad (sI S n k v) := by
  refine pw_set h1 h2 rfl ?_ (fun m hm => ce_sI hm)
  rw [ce_arr (S := sI S n k v) (kd := kd) hk (by omega)]
  have e : (fun i => gI (sI S n k v) n i) = upd (fun i => gI S n i) k v := by
    funext i
    simp [gI_sI, upd]
  simp only [ca, hlt, if_true, e]
  rfl
theorem pw_aR {cA : Nat → ClassId} {ad : Nat → Nat} {S : mS} {n k kd : Nat} {v : Nat} (h1 : 1 ≤ n) (h2 : n ≤ gN S) (hk : gK S n = kd) (hge : 34 ≤ kd) (h38 : kd ≠ 38) (h39 : kd ≠ 39) : (pw cA ad S).set (n - 1) (ad n, .inl (cA kd, gZ S n, .inr (.inr (.inr (.inr (va_up (fun i => ro ad (gR S n i)) k (ro ad v))))))) = pw cA ad (sR S n k v) := by
  refine pw_set h1 h2 rfl ?_ (fun m hm => ce_sR hm)
  rw [ce_arr (S := sR S n k v) (kd := kd) hk (by omega)]
  have e : (fun i => ro ad (gR (sR S n k v) n i)) = va_up (fun i => ro ad (gR S n i)) k (ro ad v) := by
    funext i
    by_cases hi : i = k
    · simp [gR_sR, va_up, hi]
    · simp [gR_sR, va_up, hi]
  simp only [ca, show ¬ kd < 34 from by omega, h38, h39, if_false, e]
  rfl
theorem WF_R {S : mS} {n k v : Nat} (h : ∀ n k, rK (gN S) (gR S n k)) (hv : rK (gN S) v) : ∀ a b, rK (gN (sR S n k v)) (gR (sR S n k v) a b) := by
  intro a b
  show rK (gN S) (gR (sR S n k v) a b)
  rw [gR_sR]
  split
  · exact hv
  · exact h a b
end MEM
