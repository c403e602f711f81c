/-! numbers, and rounds of loops -/
theorem zk_ix (n : Nat) (h : n < 2147483648) : (Int32.ofNat n).toNatClampNeg = n := Int32.toNatClampNeg_ofNat_of_lt h
theorem zk_ti (n : Nat) (h : n < 2147483648) : (Int32.ofNat n).toInt = n := Int32.toInt_ofNat_of_lt h
theorem zk_add (n : Nat) : Int32.ofNat n + 1 = Int32.ofNat (n + 1) := by
  rw [Int32.ofNat_add]; rfl
theorem zk_tadd {x y : Int32} (h1 : -2147483648 ≤ x.toInt + y.toInt) (h2 : x.toInt + y.toInt < 2147483648) : (x + y).toInt = x.toInt + y.toInt := by
  rw [Int32.toInt_add]; exact Int.bmod_eq_of_le (by omega) (by omega)
theorem zk_tsub {x y : Int32} (h1 : -2147483648 ≤ x.toInt - y.toInt) (h2 : x.toInt - y.toInt < 2147483648) : (x - y).toInt = x.toInt - y.toInt := by
  rw [Int32.toInt_sub]; exact Int.bmod_eq_of_le (by omega) (by omega)
theorem zk_tmul {x y : Int32} (h1 : -2147483648 ≤ x.toInt * y.toInt) (h2 : x.toInt * y.toInt < 2147483648) : (x * y).toInt = x.toInt * y.toInt := by
  rw [Int32.toInt_mul]; exact Int.bmod_eq_of_le (by omega) (by omega)
theorem zk_nat {x : Int32} (h : 0 ≤ x.toInt) : (x.toNatClampNeg : Int) = x.toInt := by
  show ((x.toInt.toNat : Nat) : Int) = _
  omega
theorem zk_of {x : Int32} (h : 0 ≤ x.toInt) : Int32.ofNat x.toNatClampNeg = x := Int32.ofNat_toNatClampNeg x (by rw [Int32.le_iff_toInt_le]; exact h)
theorem zk_le {x y : Int32} : x ≤ y ↔ x.toInt ≤ y.toInt := Int32.le_iff_toInt_le
theorem zk_lt {x y : Int32} : x < y ↔ x.toInt < y.toInt := Int32.lt_iff_toInt_lt
theorem zk_eq {x y : Int32} : x = y ↔ x.toInt = y.toInt := Int32.toInt_inj.symm
/-- from 0 to n -/
def zn (n : Nat) (x : Int32) : Prop := 0 ≤ x.toInt ∧ x.toInt ≤ n
/-- the places below N hold places of a row of M -/
def zA (N M : Nat) (f : Nat → Int32) : Prop := ∀ j, j < N → zx M (f j)
theorem zx_iff {n : Nat} {x : Int32} : zx n x ↔ 0 ≤ x.toInt ∧ x.toInt < n := by
  unfold zx
  rw [zk_lt, show (0 : Int32).toInt = 0 from rfl]
  show ¬ (x.toInt < 0 ∨ n ≤ x.toInt.toNat) ↔ _
  omega
theorem zx_of {n j : Nat} (h : j < n) (h2 : j < 2147483648) : zx n (Int32.ofNat j) := by rw [zx_iff, zk_ti _ h2]; omega
theorem zn_lt {n i : Nat} {x : Int32} (h : zn n x) (hj : i < x.toNatClampNeg) (hn : n < 2147483648) : ¬ (x ≤ Int32.ofNat i) := by
  have h1 := zk_nat h.1
  have h2 := h.2
  rw [zk_le, zk_ti _ (by omega)]; omega
theorem zn_ge {n : Nat} {x : Int32} (h : zn n x) (hn : n < 2147483648) : x ≤ Int32.ofNat x.toNatClampNeg := by
  rw [zk_of h.1]; exact Int32.le_refl _
theorem zn_cl {n : Nat} {x : Int32} (h : zn n x) : x.toNatClampNeg ≤ n := by
  have h1 := zk_nat h.1
  have h2 := h.2
  omega
/-- rounds from i on, n of them -/
def zfold {α : Type} (f : Nat → α → α) (i : Nat) : Nat → α → α
  | 0, a => a
  | n + 1, a => f (i + n) (zfold f i n a)
theorem zfold_inv {α : Type} {f : Nat → α → α} {i : Nat} {I : Nat → α → Prop} {a : α} : ∀ {n : Nat}, I 0 a → (∀ j b, j < n → I j b → I (j + 1) (f (i + j) b)) → I n (zfold f i n a)
  | 0, h0, _ => h0
  | n + 1, h0, hs => hs n _ (Nat.lt_succ_self n) (zfold_inv h0 (fun j b hj => hs j b (Nat.lt_succ_of_lt hj)))
theorem zfold_keep {α β : Type} {f : Nat → α → α} {i : Nat} (g : α → β) (h : ∀ j b, g (f j b) = g b) (n : Nat) (a : α) : g (zfold f i n a) = g a := by
  induction n with
  | zero => rfl
  | succ n ih => exact (h _ _).trans ih
theorem zfold_rel {α β : Type} {f : Nat → α → α} {f' : Nat → β → β} {i : Nat} {I : α → β → Prop} {a : α} {b : β} : ∀ {n : Nat}, I a b → (∀ j c d, j < n → I c d → I (f (i + j) c) (f' (i + j) d)) → I (zfold f i n a) (zfold f' i n b)
  | 0, h0, _ => h0
  | n + 1, h0, hs => hs n _ _ (Nat.lt_succ_self n) (zfold_rel h0 (fun j c d hj => hs j c d (Nat.lt_succ_of_lt hj)))
theorem zite_k {P : Prop} [Decidable P] {A B : zS} {k : Nat} {f : Nat → Int32} (h1 : A k = f) (h2 : B k = f) : (if P then A else B) k = f := by split <;> assumption
