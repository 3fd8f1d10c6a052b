section GOW
def AGL {α : Type} (z : α) (ok : Nat → Nat → Bool) (I J : List (List α)) : Prop := ∀ n k, ok n k = true → nt z (nt [] I n) k = nt z (nt [] J n) k
def AK (I J : List Nat) : Prop := ∀ n, n ≤ 174 → nt 0 I n = nt 0 J n
def okC (n k : Nat) : Bool := !((Nat.beq n 2 && (Nat.beq k 7 || Nat.beq k 8)) || Nat.beq n 50 || Nat.beq n 106 || Nat.beq n 107)
def okR (n k : Nat) : Bool := Nat.ble n 174 && !((Nat.beq n 149 && (Nat.beq k 9 || Nat.beq k 11 || Nat.beq k 16)) || Nat.beq n 168 || Nat.beq n 2 || Nat.beq n 50 || Nat.beq n 106 || Nat.beq n 107)
def okT (_ _ : Nat) : Bool := true
def okG (n _ : Nat) : Bool := Nat.ble n 174
def okH (n _ : Nat) : Bool := Nat.ble n 174 && !(Nat.beq n 173)
theorem ble_f {m : Nat} (h : 174 < m) : Nat.ble m 174 = false := Bool.eq_false_iff.mpr (fun h2 => by have := Nat.le_of_ble_eq_true h2; omega)
theorem nq {N a j : Nat} (hN : 174 ≤ N) (h : Nat.ble a 174 = true) (h2 : Nat.ble 1 j = true) : ¬ a = N + j := by
  have h3 := Nat.le_of_ble_eq_true h
  have h4 := Nat.le_of_ble_eq_true h2
  omega
theorem nq2 {N a j : Nat} (hN : 174 ≤ N) (h : Nat.ble a 174 = true) (h2 : Nat.ble 1 j = true) : ¬ N + j = a := fun e => nq hN h h2 e.symm
theorem nq3 {N i j : Nat} (h : Nat.beq i j = false) : ¬ N + i = N + j := fun e => Nat.ne_of_beq_eq_false h (Nat.add_left_cancel e)
theorem bq {N j : Nat} (hN : 174 ≤ N) (h2 : Nat.ble 1 j = true) : 174 < N + j := by
  have h4 := Nat.le_of_ble_eq_true h2
  omega
theorem okR_big {m k : Nat} (h : 174 < m) : okR m k = false := by unfold okR; rw [ble_f h]; rfl
theorem okG_big {m k : Nat} (h : 174 < m) : okG m k = false := by unfold okG; exact ble_f h
theorem okH_big {m k : Nat} (h : 174 < m) : okH m k = false := by unfold okH; rw [ble_f h]; rfl
section
variable {α : Type} {z v : α} {ok : Nat → Nat → Bool} {I J : List (List α)} {a b m : Nat}
theorem ag_refl : AGL z ok I I := fun _ _ _ => rfl
theorem ag_p2 (hb : ok a b = false) (h : AGL z ok I J) : AGL z ok (p2 z I a b v) J := fun n k hk => by
  rw [nt_p2, if_neg (fun q => by rw [q.1, q.2, hb] at hk; cases hk)]
  exact h n k hk
theorem ag_p2s (hv : nt z (nt [] J a) b = v) (h : AGL z ok I J) : AGL z ok (p2 z I a b v) J := fun n k hk => by
  rw [nt_p2]
  by_cases q : n = a ∧ k = b
  · rw [if_pos q, q.1, q.2, hv]
  · rw [if_neg q]; exact h n k hk
theorem ag_pt (hb : ∀ k, ok m k = false) (h : AGL z ok I J) : AGL z ok (pt [] I m []) J := fun n k hk => by
  rw [nt_pt, if_neg (fun q => by rw [q, hb] at hk; cases hk)]
  exact h n k hk
theorem ag_sub {ok2 : Nat → Nat → Bool} (hs : ∀ n k, ok2 n k = true → ok n k = true) (h : AGL z ok I J) : AGL z ok2 I J := fun n k hk => h n k (hs n k hk)
end
theorem ak_refl {K : List Nat} : AK K K := fun _ _ => rfl
theorem ak_pt {K J : List Nat} {m v : Nat} (hm : 174 < m) (h : AK K J) : AK (pt 0 K m v) J := fun n hn => by
  rw [nt_pt, if_neg (by omega)]
  exact h n hn
theorem agI {I J : List (List Int32)} {ok : Nat → Nat → Bool} {r : List (List Int64) × List (List Nat) × List (List UInt64) × List Nat × List Nat × Nat} {a b : Nat} {v : Int32} (h : AGL 0 ok I J) (e : ok a b = true) (q : gI (J, [], [], [], [], [], 0) a b = v) : gI (I, r) a b = v := (h a b e).trans q
theorem agL {I J : List (List Int64)} {ok : Nat → Nat → Bool} {i : List (List Int32)} {r : List (List Nat) × List (List UInt64) × List Nat × List Nat × Nat} {a b : Nat} {v : Int64} (h : AGL 0 ok I J) (e : ok a b = true) (q : gL ([], J, [], [], [], [], 0) a b = v) : gL (i, I, r) a b = v := (h a b e).trans q
theorem agR {I J : List (List Nat)} {ok : Nat → Nat → Bool} {i : List (List Int32)} {l : List (List Int64)} {r : List (List UInt64) × List Nat × List Nat × Nat} {a b : Nat} {v : Nat} (h : AGL 0 ok I J) (e : ok a b = true) (q : gR ([], [], J, [], [], [], 0) a b = v) : gR (i, l, I, r) a b = v := (h a b e).trans q
theorem agK {K J : List Nat} {i : List (List Int32)} {l : List (List Int64)} {r : List (List Nat)} {d : List (List UInt64)} {zz : List Nat × Nat} {a v : Nat} (h : AK K J) (e : Nat.ble a 174 = true) (q : gK ([], [], [], [], J, [], 0) a = v) : gK (i, l, r, d, K, zz) a = v := (h a (Nat.le_of_ble_eq_true e)).trans q
theorem agZ {K J : List Nat} {i : List (List Int32)} {l : List (List Int64)} {r : List (List Nat)} {d : List (List UInt64)} {kk : List Nat} {n a v : Nat} (h : AK K J) (e : Nat.ble a 174 = true) (q : gZ ([], [], [], [], [], J, 0) a = v) : gZ (i, l, r, d, kk, K, n) a = v := (h a (Nat.le_of_ble_eq_true e)).trans q
theorem lkI {J : List (List Int32)} {a b : Nat} {v : Int32} (q : gI (J, [], [], [], [], [], 0) a b = v) : nt 0 (nt [] J a) b = v := q
theorem lkL {J : List (List Int64)} {a b : Nat} {v : Int64} (q : gL ([], J, [], [], [], [], 0) a b = v) : nt 0 (nt [] J a) b = v := q
theorem gI_a2 {I : List (List Int32)} {r : List (List Int64) × List (List Nat) × List (List UInt64) × List Nat × List Nat × Nat} {n k a b : Nat} {v : Int32} (h : ¬ a = n) : gI (p2 0 I n k v, r) a b = gI (I, r) a b := by
  show nt 0 (nt [] (p2 0 I n k v) a) b = nt 0 (nt [] I a) b
  rw [nt_p2, if_neg (fun q => h q.1)]
theorem gR_a2 {i : List (List Int32)} {l : List (List Int64)} {R : List (List Nat)} {r : List (List UInt64) × List Nat × List Nat × Nat} {n k a b : Nat} {v : Nat} (h : ¬ a = n) : gR (i, l, p2 0 R n k v, r) a b = gR (i, l, R, r) a b := by
  show nt 0 (nt [] (p2 0 R n k v) a) b = nt 0 (nt [] R a) b
  rw [nt_p2, if_neg (fun q => h q.1)]
theorem gI_w2 {I : List (List Int32)} {r : List (List Int64) × List (List Nat) × List (List UInt64) × List Nat × List Nat × Nat} {n a j : Nat} (h : ¬ a = n) : gI (pt [] I n [], r) a j = gI (I, r) a j := by
  show nt 0 (nt [] (pt [] I n []) a) j = nt 0 (nt [] I a) j
  rw [nt_pt, if_neg h]
theorem gL_w2 {i : List (List Int32)} {L : List (List Int64)} {r : List (List Nat) × List (List UInt64) × List Nat × List Nat × Nat} {n a j : Nat} (h : ¬ a = n) : gL (i, pt [] L n [], r) a j = gL (i, L, r) a j := by
  show nt 0 (nt [] (pt [] L n []) a) j = nt 0 (nt [] L a) j
  rw [nt_pt, if_neg h]
theorem gR_w2 {i : List (List Int32)} {l : List (List Int64)} {R : List (List Nat)} {r : List (List UInt64) × List Nat × List Nat × Nat} {n a j : Nat} (h : ¬ a = n) : gR (i, l, pt [] R n [], r) a j = gR (i, l, R, r) a j := by
  show nt 0 (nt [] (pt [] R n []) a) j = nt 0 (nt [] R a) j
  rw [nt_pt, if_neg h]
theorem gK_w2 {i : List (List Int32)} {l : List (List Int64)} {r : List (List Nat)} {d : List (List UInt64)} {K : List Nat} {z : List Nat × Nat} {n v a : Nat} (h : ¬ a = n) : gK (i, l, r, d, pt 0 K n v, z) a = gK (i, l, r, d, K, z) a := by
  show nt 0 (pt 0 K n v) a = nt 0 K a
  rw [nt_pt, if_neg h]
theorem gZ_w2 {i : List (List Int32)} {l : List (List Int64)} {r : List (List Nat)} {d : List (List UInt64)} {k Z : List Nat} {N n v a : Nat} (h : ¬ a = n) : gZ (i, l, r, d, k, pt 0 Z n v, N) a = gZ (i, l, r, d, k, Z, N) a := by
  show nt 0 (pt 0 Z n v) a = nt 0 Z a
  rw [nt_pt, if_neg h]
theorem dj : ∀ j, j < 2000 → (Int32.ofNat j + (1 : Int32) - (1 : Int32)) / (360000 : Int32) = (0 : Int32) := by decide +kernel
theorem inc9 (j : Nat) : Int32.ofNat j + Int32.ofInt 1 = Int32.ofNat (j + 1) := (inc_ofNat j).symm
theorem of_range {y : Int32} (h1 : ¬ y < 1) (h2 : ¬ (2000 : Int32) < y) : ∃ n : Nat, n ≤ 2000 ∧ y = Int32.ofNat n := by
  rw [Int32.lt_iff_toInt_lt, show (1 : Int32).toInt = 1 from by decide] at h1
  rw [Int32.lt_iff_toInt_lt, show (2000 : Int32).toInt = 2000 from by decide] at h2
  refine ⟨y.toInt.toNat, by omega, ?_⟩
  apply Int32.toInt_inj.mp
  rw [show (Int32.ofNat y.toInt.toNat).toInt = (y.toInt.toNat : Int) from nI_toInt (by omega)]
  omega
theorem not_le9 {n j : Nat} (h : j < n) (hn : n ≤ 2000) : ¬ Int32.ofNat n ≤ Int32.ofNat j := nI_ge h (by omega)
theorem okRC (n k : Nat) (h : okR n k = true) : okC n k = true := by
  unfold okR at h
  unfold okC
  revert h
  cases Nat.ble n 174 <;> cases Nat.beq n 149 <;> cases Nat.beq n 168 <;> cases Nat.beq n 2 <;> cases Nat.beq n 50 <;> cases Nat.beq n 106 <;> cases Nat.beq n 107 <;> cases Nat.beq k 9 <;> cases Nat.beq k 11 <;> cases Nat.beq k 16 <;> simp
theorem okHT (n k : Nat) (_ : okH n k = true) : okT n k = true := rfl
def CI (t u g : Int32) (I : List (List Int32)) (L : List (List Int64)) : Prop := AGL 0 okC I M3I ∧ AGL 0 okT L M3L ∧ gI (I, L, M3R, M3D, M3K, M3Z, 174) 2 7 = t ∧ gI (I, L, M3R, M3D, M3K, M3Z, 174) 2 8 = u ∧ gI (I, L, M3R, M3D, M3K, M3Z, 174) 50 0 = g ∧ gI (I, L, M3R, M3D, M3K, M3Z, 174) 50 1 = g ∧ gI (I, L, M3R, M3D, M3K, M3Z, 174) 50 2 = g ∧ gI (I, L, M3R, M3D, M3K, M3Z, 174) 50 3 = g ∧ gI (I, L, M3R, M3D, M3K, M3Z, 174) 50 4 = g ∧ gI (I, L, M3R, M3D, M3K, M3Z, 174) 50 5 = g
def RI (t u g : Int32) (w : Int64) (S : mS) : Prop := AGL 0 okR S.1 M3I ∧ AGL 0 okH S.2.1 M3L ∧ AGL 0 okG S.2.2.1 M3R ∧ AK S.2.2.2.2.1 M3K ∧ AK S.2.2.2.2.2.1 M3Z ∧ gL S 173 0 = w ∧ gI S 149 9 = t ∧ gI S 149 11 = u ∧ gI S 168 0 = g ∧ gI S 168 1 = g ∧ gI S 168 2 = g ∧ gI S 168 3 = g ∧ gI S 168 4 = g ∧ gI S 168 5 = g
end GOW
