section WPS
variable {τ σ : Type}
def WP (Q : Rs τ → Prop) (o : Option (Rs τ)) : Prop := ∃ r, o = some r ∧ Q r
def BK (f : τ → mS → Option (Rs σ)) (Q : Rs σ → Prop) : Rs τ → Prop
  | (.inl v, S) => WP Q (f v S)
  | (.inr E, S) => WP Q (some (.inr E, S))
def CK (g : String → mS → Option (Rs σ)) (f : τ → mS → Option (Rs σ)) (Q : Rs σ → Prop) : Rs τ → Prop
  | (.inl v, S) => WP Q (f v S)
  | (.inr E, S) => WP Q (g E S)
theorem wp_bd {x : Option (Rs τ)} {f : τ → mS → Option (Rs σ)} {Q : Rs σ → Prop} (h : WP (BK f Q) x) : WP Q (bd x f) := by
  obtain ⟨⟨v | E, S⟩, hr, hq⟩ := h
  · subst hr; exact hq
  · subst hr; exact hq
theorem wp_bdc {x : Option (Rs τ)} {g : String → mS → Option (Rs σ)} {f : τ → mS → Option (Rs σ)} {Q : Rs σ → Prop} (h : WP (CK g f Q) x) : WP Q (bdc x g f) := by
  obtain ⟨⟨v | E, S⟩, hr, hq⟩ := h
  · subst hr; exact hq
  · subst hr; exact hq
theorem wp_ret_bd {f : τ → mS → Option (Rs σ)} {Q : Rs σ → Prop} {v : τ} {S : mS} (h : WP Q (f v S)) : WP (BK f Q) (some (.inl v, S)) := ⟨_, rfl, h⟩
theorem wp_ret_bdc {g : String → mS → Option (Rs σ)} {f : τ → mS → Option (Rs σ)} {Q : Rs σ → Prop} {v : τ} {S : mS} (h : WP Q (f v S)) : WP (CK g f Q) (some (.inl v, S)) := ⟨_, rfl, h⟩
theorem wp_rs_bd {f : τ → mS → Option (Rs σ)} {Q : Rs σ → Prop} {E : String} {S : mS} (h : WP Q (some (.inr E, S))) : WP (BK f Q) (some (.inr E, S)) := ⟨_, rfl, h⟩
theorem wp_rs_bdc {g : String → mS → Option (Rs σ)} {f : τ → mS → Option (Rs σ)} {Q : Rs σ → Prop} {E : String} {S : mS} (h : WP Q (g E S)) : WP (CK g f Q) (some (.inr E, S)) := ⟨_, rfl, h⟩
theorem wp_gd {c : Prop} [Decidable c] {x : Option (Rs τ)} {Q : Rs τ → Prop} (hc : c) (h : WP Q x) : WP Q (gd c x) := by
  unfold gd
  rw [if_pos hc]
  exact h
theorem wp_lt {α : Type} {v w : α} {f : α → Option (Rs τ)} {Q : Rs τ → Prop} (e : v = w) (h : WP Q (f w)) : WP Q (lt9 v f) := by
  subst e
  exact h
theorem wp_ltr {α : Type} {v : α} {f : α → Option (Rs τ)} {Q : Rs τ → Prop} (h : WP Q (f v)) : WP Q (lt9 v f) := h
theorem wp_ltite {α : Type} {c : Prop} [Decidable c] {a b : α} {f : α → Option (Rs τ)} {Q : Rs τ → Prop} (h1 : c → WP Q (f a)) (h2 : ¬ c → WP Q (f b)) : WP Q (lt9 (if c then a else b) f) := by
  by_cases hc : c
  · rw [if_pos hc]; exact h1 hc
  · rw [if_neg hc]; exact h2 hc
theorem wp_if {c : Prop} [Decidable c] {a b : Option (Rs τ)} {Q : Rs τ → Prop} (h1 : c → WP Q a) (h2 : ¬ c → WP Q b) : WP Q (if c then a else b) := by
  by_cases hc : c
  · rw [if_pos hc]; exact h1 hc
  · rw [if_neg hc]; exact h2 hc
theorem wp_ifp {c : Prop} [Decidable c] {a b : Option (Rs τ)} {Q : Rs τ → Prop} (hc : c) (h : WP Q a) : WP Q (if c then a else b) := by
  rw [if_pos hc]; exact h
theorem wp_ifn {c : Prop} [Decidable c] {a b : Option (Rs τ)} {Q : Rs τ → Prop} (hc : ¬ c) (h : WP Q b) : WP Q (if c then a else b) := by
  rw [if_neg hc]; exact h
theorem wp_of {a b : Option (Rs τ)} {Q : Rs τ → Prop} (e : a = b) (h : WP Q b) : WP Q a := by
  rw [e]; exact h
theorem wp_ev {x : Option (Rs τ)} {f : τ → mS → Option (Rs σ)} {Q : Rs σ → Prop} {v : τ} {S : mS} (e : x = some (.inl v, S)) (h : WP Q (f v S)) : WP Q (bd x f) := by
  subst e; exact h
theorem wp_zI {I : List (List Int32)} {r : List (List Int64) × List (List Nat) × List (List UInt64) × List Nat × List Nat × Nat} {n k : Nat} {v : Int32} {f : mS → Option (Rs τ)} {Q : Rs τ → Prop} (h : WP Q (f (p2 0 I n k v, r))) : WP Q (zI (sI (I, r) n k v) f) := by
  unfold zI
  rw [zf2_eq]
  exact h
theorem wp_zL {i : List (List Int32)} {L : List (List Int64)} {r : List (List Nat) × List (List UInt64) × List Nat × List Nat × Nat} {n k : Nat} {v : Int64} {f : mS → Option (Rs τ)} {Q : Rs τ → Prop} (h : WP Q (f (i, p2 0 L n k v, r))) : WP Q (zL (sL (i, L, r) n k v) f) := by
  unfold zL
  rw [zf2_eq]
  exact h
theorem wp_zR {i : List (List Int32)} {l : List (List Int64)} {R : List (List Nat)} {r : List (List UInt64) × List Nat × List Nat × Nat} {n k : Nat} {v : Nat} {f : mS → Option (Rs τ)} {Q : Rs τ → Prop} (h : WP Q (f (i, l, p2 0 R n k v, r))) : WP Q (zR (sR (i, l, R, r) n k v) f) := by
  unfold zR
  rw [zf2_eq]
  exact h
theorem wp_zIk {I : List (List Int32)} {r : List (List Int64) × List (List Nat) × List (List UInt64) × List Nat × List Nat × Nat} {n k k' : Nat} {v : Int32} {f : mS → Option (Rs τ)} {Q : Rs τ → Prop} (e : k = k') (h : WP Q (f (p2 0 I n k' v, r))) : WP Q (zI (sI (I, r) n k v) f) := by
  subst e
  exact wp_zI h
theorem wp_zLk {i : List (List Int32)} {L : List (List Int64)} {r : List (List Nat) × List (List UInt64) × List Nat × List Nat × Nat} {n k k' : Nat} {v : Int64} {f : mS → Option (Rs τ)} {Q : Rs τ → Prop} (e : k = k') (h : WP Q (f (i, p2 0 L n k' v, r))) : WP Q (zL (sL (i, L, r) n k v) f) := by
  subst e
  exact wp_zL h
theorem wp_zRk {i : List (List Int32)} {l : List (List Int64)} {R : List (List Nat)} {r : List (List UInt64) × List Nat × List Nat × Nat} {n k k' : Nat} {v : Nat} {f : mS → Option (Rs τ)} {Q : Rs τ → Prop} (e : k = k') (h : WP Q (f (i, l, p2 0 R n k' v, r))) : WP Q (zR (sR (i, l, R, r) n k v) f) := by
  subst e
  exact wp_zR h
theorem zW_eq {β : Type} (S : mS) (k : mS → β) : zW S k = k S := by
  obtain ⟨a, b, c, d, e, g, n⟩ := S
  unfold zW
  rw [zf2_eq, zf2_eq, zf2_eq, zf2_eq, zf1_eq, zf1_eq]
  cases n <;> rfl
theorem wp_zW {I : List (List Int32)} {L : List (List Int64)} {R : List (List Nat)} {D : List (List UInt64)} {K Z : List Nat} {N m kd z : Nat} {f : mS → Option (Rs τ)} {Q : Rs τ → Prop} (e : N + 1 = m) (h : WP Q (f (pt [] I m [], pt [] L m [], pt [] R m [], pt [] D m [], pt 0 K m kd, pt 0 Z m z, m))) : WP Q (zW (sW (I, L, R, D, K, Z, N) kd z) f) := by
  subst e
  rw [zW_eq]
  exact h
end WPS
section LKS
theorem nb {a n : Nat} (h : Nat.beq a n = false) : ¬ a = n := Nat.ne_of_beq_eq_false h
theorem gI_s {I : List (List Int32)} {r : List (List Int64) × List (List Nat) × List (List UInt64) × List Nat × List Nat × Nat} {n k : Nat} {v : Int32} : gI (p2 0 I n k v, r) n k = v := by
  show nt 0 (nt [] (p2 0 I n k v) n) k = v
  rw [nt_p2, if_pos ⟨rfl, rfl⟩]
theorem gI_a {I : List (List Int32)} {r : List (List Int64) × List (List Nat) × List (List UInt64) × List Nat × List Nat × Nat} {n k a b : Nat} {v : Int32} (h : Nat.beq a n = false) : gI (p2 0 I n k v, r) a b = gI (I, r) a b := by
  show nt 0 (nt [] (p2 0 I n k v) a) b = nt 0 (nt [] I a) b
  rw [nt_p2, if_neg (fun q => nb h q.1)]
theorem gI_b {I : List (List Int32)} {r : List (List Int64) × List (List Nat) × List (List UInt64) × List Nat × List Nat × Nat} {n k a b : Nat} {v : Int32} (h : Nat.beq b k = false) : gI (p2 0 I n k v, r) a b = gI (I, r) a b := by
  show nt 0 (nt [] (p2 0 I n k v) a) b = nt 0 (nt [] I a) b
  rw [nt_p2, if_neg (fun q => nb h q.2)]
theorem gL_s {i : List (List Int32)} {L : List (List Int64)} {r : List (List Nat) × List (List UInt64) × List Nat × List Nat × Nat} {n k : Nat} {v : Int64} : gL (i, p2 0 L n k v, r) n k = v := by
  show nt 0 (nt [] (p2 0 L n k v) n) k = v
  rw [nt_p2, if_pos ⟨rfl, rfl⟩]
theorem gL_a {i : List (List Int32)} {L : List (List Int64)} {r : List (List Nat) × List (List UInt64) × List Nat × List Nat × Nat} {n k a b : Nat} {v : Int64} (h : Nat.beq a n = false) : gL (i, p2 0 L n k v, r) a b = gL (i, L, r) a b := by
  show nt 0 (nt [] (p2 0 L n k v) a) b = nt 0 (nt [] L a) b
  rw [nt_p2, if_neg (fun q => nb h q.1)]
theorem gL_b {i : List (List Int32)} {L : List (List Int64)} {r : List (List Nat) × List (List UInt64) × List Nat × List Nat × Nat} {n k a b : Nat} {v : Int64} (h : Nat.beq b k = false) : gL (i, p2 0 L n k v, r) a b = gL (i, L, r) a b := by
  show nt 0 (nt [] (p2 0 L n k v) a) b = nt 0 (nt [] L a) b
  rw [nt_p2, if_neg (fun q => nb h q.2)]
theorem gR_s {i : List (List Int32)} {l : List (List Int64)} {R : List (List Nat)} {r : List (List UInt64) × List Nat × List Nat × Nat} {n k : Nat} {v : Nat} : gR (i, l, p2 0 R n k v, r) n k = v := by
  show nt 0 (nt [] (p2 0 R n k v) n) k = v
  rw [nt_p2, if_pos ⟨rfl, rfl⟩]
theorem gR_a {i : List (List Int32)} {l : List (List Int64)} {R : List (List Nat)} {r : List (List UInt64) × List Nat × List Nat × Nat} {n k a b : Nat} {v : Nat} (h : Nat.beq a n = false) : gR (i, l, p2 0 R n k v, r) a b = gR (i, l, R, r) a b := by
  show nt 0 (nt [] (p2 0 R n k v) a) b = nt 0 (nt [] R a) b
  rw [nt_p2, if_neg (fun q => nb h q.1)]
theorem gR_b {i : List (List Int32)} {l : List (List Int64)} {R : List (List Nat)} {r : List (List UInt64) × List Nat × List Nat × Nat} {n k a b : Nat} {v : Nat} (h : Nat.beq b k = false) : gR (i, l, p2 0 R n k v, r) a b = gR (i, l, R, r) a b := by
  show nt 0 (nt [] (p2 0 R n k v) a) b = nt 0 (nt [] R a) b
  rw [nt_p2, if_neg (fun q => nb h q.2)]
theorem gI_n {I : List (List Int32)} {r : List (List Int64) × List (List Nat) × List (List UInt64) × List Nat × List Nat × Nat} {n j : Nat} : gI (pt [] I n [], r) n j = 0 := by
  show nt 0 (nt [] (pt [] I n []) n) j = 0
  rw [nt_pt, if_pos rfl]; rfl
theorem gI_w {I : List (List Int32)} {r : List (List Int64) × List (List Nat) × List (List UInt64) × List Nat × List Nat × Nat} {n a j : Nat} (h : Nat.beq a n = false) : gI (pt [] I n [], r) a j = gI (I, r) a j := by
  show nt 0 (nt [] (pt [] I n []) a) j = nt 0 (nt [] I a) j
  rw [nt_pt, if_neg (nb h)]
theorem gL_n {i : List (List Int32)} {L : List (List Int64)} {r : List (List Nat) × List (List UInt64) × List Nat × List Nat × Nat} {n j : Nat} : gL (i, pt [] L n [], r) n j = 0 := by
  show nt 0 (nt [] (pt [] L n []) n) j = 0
  rw [nt_pt, if_pos rfl]; rfl
theorem gL_w {i : List (List Int32)} {L : List (List Int64)} {r : List (List Nat) × List (List UInt64) × List Nat × List Nat × Nat} {n a j : Nat} (h : Nat.beq a n = false) : gL (i, pt [] L n [], r) a j = gL (i, L, r) a j := by
  show nt 0 (nt [] (pt [] L n []) a) j = nt 0 (nt [] L a) j
  rw [nt_pt, if_neg (nb h)]
theorem gR_n {i : List (List Int32)} {l : List (List Int64)} {R : List (List Nat)} {r : List (List UInt64) × List Nat × List Nat × Nat} {n j : Nat} : gR (i, l, pt [] R n [], r) n j = 0 := by
  show nt 0 (nt [] (pt [] R n []) n) j = 0
  rw [nt_pt, if_pos rfl]; rfl
theorem gR_w {i : List (List Int32)} {l : List (List Int64)} {R : List (List Nat)} {r : List (List UInt64) × List Nat × List Nat × Nat} {n a j : Nat} (h : Nat.beq a n = false) : gR (i, l, pt [] R n [], r) a j = gR (i, l, R, r) a j := by
  show nt 0 (nt [] (pt [] R n []) a) j = nt 0 (nt [] R a) j
  rw [nt_pt, if_neg (nb h)]
theorem gK_n {i : List (List Int32)} {l : List (List Int64)} {r : List (List Nat)} {d : List (List UInt64)} {K : List Nat} {z : List Nat × Nat} {n v : Nat} : gK (i, l, r, d, pt 0 K n v, z) n = v := by
  show nt 0 (pt 0 K n v) n = v
  rw [nt_pt, if_pos rfl]
theorem gK_w {i : List (List Int32)} {l : List (List Int64)} {r : List (List Nat)} {d : List (List UInt64)} {K : List Nat} {z : List Nat × Nat} {n v a : Nat} (h : Nat.beq a n = false) : gK (i, l, r, d, pt 0 K n v, z) a = gK (i, l, r, d, K, z) a := by
  show nt 0 (pt 0 K n v) a = nt 0 K a
  rw [nt_pt, if_neg (nb h)]
theorem gZ_n {i : List (List Int32)} {l : List (List Int64)} {r : List (List Nat)} {d : List (List UInt64)} {k Z : List Nat} {N n v : Nat} : gZ (i, l, r, d, k, pt 0 Z n v, N) n = v := by
  show nt 0 (pt 0 Z n v) n = v
  rw [nt_pt, if_pos rfl]
theorem gZ_w {i : List (List Int32)} {l : List (List Int64)} {r : List (List Nat)} {d : List (List UInt64)} {k Z : List Nat} {N n v a : Nat} (h : Nat.beq a n = false) : gZ (i, l, r, d, k, pt 0 Z n v, N) a = gZ (i, l, r, d, k, Z, N) a := by
  show nt 0 (pt 0 Z n v) a = nt 0 Z a
  rw [nt_pt, if_neg (nb h)]
theorem gIk {S : mS} {n i k : Nat} {v : Int32} (e : i = k) (h : gI S n k = v) : gI S n i = v := by subst e; exact h
theorem gLk {S : mS} {n i k : Nat} {v : Int64} (e : i = k) (h : gL S n k = v) : gL S n i = v := by subst e; exact h
theorem gRk {S : mS} {n i k : Nat} {v : Nat} (e : i = k) (h : gR S n k = v) : gR S n i = v := by subst e; exact h
theorem gZo {S : mS} {r z : Nat} {w : Int32} (h : gZ S r = z) (f : Int32.ofNat z = w) : Int32.ofNat (gZ S r) = w := by rw [h]; exact f
theorem gZi {S : mS} {r z : Nat} {i : Int32} (h : gZ S r = z) (f : ¬ (i < 0 ∨ z ≤ i.toNatClampNeg)) : ¬ (i < 0 ∨ gZ S r ≤ i.toNatClampNeg) := by rw [h]; exact f
theorem gNk {i : List (List Int32)} {l : List (List Int64)} {r : List (List Nat)} {d : List (List UInt64)} {k z : List Nat} {n : Nat} (h : n + 1 < KB) : gN (i, l, r, d, k, z, n) + 1 < KB := h
theorem xsk {xs : Nat → Int32} {i n : Nat} {y : Int32} (e : i = n) (h : xs n = y) : xs i = y := by subst e; exact h
theorem lg_self {a : Int64} : lg_cmp a a = 0 := by
  unfold lg_cmp
  rw [if_neg (show ¬ a > a from by rw [gt_iff_lt, Int64.lt_iff_toInt_lt]; omega), if_pos rfl]
theorem chq {y w : Int32} (h : (y.toUInt32 % 65536).toInt32 = w) : (w.toUInt32.toUInt16.toUInt32.toInt32 = w ∧ 0 ≤ w) ∧ w ≤ 65535 := by
  subst h
  have hu : (y.toUInt32 % 65536).toNat < 65536 := by
    rw [UInt32.toNat_mod]
    exact Nat.mod_lt _ (by decide)
  generalize y.toUInt32 % 65536 = u at hu
  have e1 : u.toInt32.toUInt32 = u := rfl
  have e2 : u.toUInt16.toUInt32 = u := UInt32.toNat_inj.mp (by rw [UInt16.toNat_toUInt32, UInt32.toNat_toUInt16]; exact Nat.mod_eq_of_lt hu)
  have e3 : u.toInt32.toInt = (u.toNat : Int) := BitVec.toInt_eq_toNat_of_lt (show 2 * u.toBitVec.toNat < 2 ^ 32 from by have : u.toBitVec.toNat = u.toNat := rfl; omega)
  refine ⟨⟨by rw [e1, e2], ?_⟩, ?_⟩
  · rw [Int32.le_iff_toInt_le, e3, show (0 : Int32).toInt = 0 from by decide]; omega
  · rw [Int32.le_iff_toInt_le, e3, show (65535 : Int32).toInt = 65535 from by decide]; omega
theorem ifL {α : Type} {c : Prop} [Decidable c] {a b v : α} (h : c) (e : a = v) : (if c then a else b) = v := by rw [if_pos h]; exact e
theorem ifR {α : Type} {c : Prop} [Decidable c] {a b v : α} (h : ¬ c) (e : b = v) : (if c then a else b) = v := by rw [if_neg h]; exact e
theorem zbL {S : mS} {r z : Nat} (h : r < KB) (e : gZ S r = z) : zb S r = z := by unfold zb; rw [if_pos h]; exact e
theorem zbK {S : mS} {r z : Nat} (h : ¬ r < KB) (e : kLen.getD (r - (KB + 10)) 0 = z) : zb S r = z := by unfold zb; rw [if_neg h]; exact e
theorem zbo {S : mS} {r z : Nat} {w : Int32} (h : zb S r = z) (f : Int32.ofNat z = w) : Int32.ofNat (zb S r) = w := by rw [h]; exact f
theorem zbi {S : mS} {r z : Nat} {i : Int32} (h : zb S r = z) (f : ¬ (i < 0 ∨ z ≤ i.toNatClampNeg)) : ¬ (i < 0 ∨ zb S r ≤ i.toNatClampNeg) := by rw [h]; exact f
theorem ibL {S : mS} {r k : Nat} {v : Int32} (h : r < KB) (e : gI S r k = v) : ib S r k = v := by unfold ib; rw [if_pos h]; exact e
theorem ibK {S : mS} {r k : Nat} {v : Int32} (h : ¬ r < KB) (e : (kByt.getD (r - (KB + 10)) []).getD k 0 = v) : ib S r k = v := by unfold ib; rw [if_neg h]; exact e
theorem ibk {S : mS} {r i k : Nat} {v : Int32} (e : i = k) (h : ib S r k = v) : ib S r i = v := by subst e; exact h
theorem neK {a b c : Nat} (h : a = b) (f : ¬ b = c) : ¬ a = c := by rw [h]; exact f
theorem i2b_idem {v : Int32} : (v.toInt8.toInt32).toInt8.toInt32 = v.toInt8.toInt32 := by rw [Int8.toInt8_toInt32]
theorem i2b_ne {w k : Int32} (h0 : 0 ≤ w) (h1 : ¬ 255 < w) (hk : 0 ≤ k.toInt ∧ k.toInt ≤ 127) (hne : ¬ w = k) : ¬ w.toInt8.toInt32 = k := by
  intro h
  apply hne
  have e1 : w.toInt8.toInt32.toInt = w.toInt.bmod (2 ^ 8) := lg_i2b_toInt w
  rw [h] at e1
  rw [Int32.le_iff_toInt_le, show (0 : Int32).toInt = 0 from by decide] at h0
  rw [Int32.lt_iff_toInt_lt, show (255 : Int32).toInt = 255 from by decide] at h1
  rw [Int.bmod_def] at e1
  apply Int32.toInt_inj.mp
  split at e1 <;> omega
def Q0 (r : Rs Int32) : Prop := ∃ S9, r = (.inl 1, S9)
theorem wp_end {S : mS} : WP Q0 (some (.inl 1, S)) := ⟨_, rfl, _, rfl⟩
end LKS
