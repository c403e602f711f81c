/-! numbers, and rounds of loops -/
theorem zk_ix (n : Nat) (h : n < 2147483648) : (Int32.ofNat n).toNatClampNeg = n := Int32.toNatClampNeg_ofNat_of_lt h
theorem zk_ti (n : Nat) (h : n < 2147483648) : (Int32.ofNat n).toInt = n := Int32.toInt_ofNat_of_lt h
theorem zk_add (n : Nat) : Int32.ofNat n + 1 = Int32.ofNat (n + 1) := by
  rw [Int32.ofNat_add]; rfl
theorem zk_tadd {x y : Int32} (h1 : -2147483648 ≤ x.toInt + y.toInt) (h2 : x.toInt + y.toInt < 2147483648) : (x + y).toInt = x.toInt + y.toInt := by
  rw [Int32.toInt_add]; exact Int.bmod_eq_of_le (by omega) (by omega)
theorem zk_tsub {x y : Int32} (h1 : -2147483648 ≤ x.toInt - y.toInt) (h2 : x.toInt - y.toInt < 2147483648) : (x - y).toInt = x.toInt - y.toInt := by
  rw [Int32.toInt_sub]; exact Int.bmod_eq_of_le (by omega) (by omega)
theorem zk_tmul {x y : Int32} (h1 : -2147483648 ≤ x.toInt * y.toInt) (h2 : x.toInt * y.toInt < 2147483648) : (x * y).toInt = x.toInt * y.toInt := by
  rw [Int32.toInt_mul]; exact Int.bmod_eq_of_le (by omega) (by omega)
theorem zk_nat {x : Int32} (h : 0 ≤ x.toInt) : (x.toNatClampNeg : Int) = x.toInt := by
  show ((x.toInt.toNat : Nat) : Int) = _
  omega
theorem zk_of {x : Int32} (h : 0 ≤ x.toInt) : Int32.ofNat x.toNatClampNeg = x := Int32.ofNat_toNatClampNeg x (by rw [Int32.le_iff_toInt_le]; exact h)
theorem zk_le {x y : Int32} : x ≤ y ↔ x.toInt ≤ y.toInt := Int32.le_iff_toInt_le
theorem zk_lt {x y : Int32} : x < y ↔ x.toInt < y.toInt := Int32.lt_iff_toInt_lt
theorem zk_eq {x y : Int32} : x = y ↔ x.toInt = y.toInt := Int32.toInt_inj.symm
/-- from 0 to n -/
def zn (n : Nat) (x : Int32) : Prop := 0 ≤ x.toInt ∧ x.toInt ≤ n
/-- the places below N hold places of a row of M -/
def zA (N M : Nat) (f : Nat → Int32) : Prop := ∀ j, j < N → zx M (f j)
theorem zx_iff {n : Nat} {x : Int32} : zx n x ↔ 0 ≤ x.toInt ∧ x.toInt < n := by
  unfold zx
  rw [zk_lt, show (0 : Int32).toInt = 0 from rfl]
  show ¬ (x.toInt < 0 ∨ n ≤ x.toInt.toNat) ↔ _
  omega
theorem zx_of {n j : Nat} (h : j < n) (h2 : j < 2147483648) : zx n (Int32.ofNat j) := by rw [zx_iff, zk_ti _ h2]; omega
theorem zn_lt {n i : Nat} {x : Int32} (h : zn n x) (hj : i < x.toNatClampNeg) (hn : n < 2147483648) : ¬ (x ≤ Int32.ofNat i) := by
  have h1 := zk_nat h.1
  have h2 := h.2
  rw [zk_le, zk_ti _ (by omega)]; omega
theorem zn_ge {n : Nat} {x : Int32} (h : zn n x) (hn : n < 2147483648) : x ≤ Int32.ofNat x.toNatClampNeg := by
  rw [zk_of h.1]; exact Int32.le_refl _
theorem zn_cl {n : Nat} {x : Int32} (h : zn n x) : x.toNatClampNeg ≤ n := by
  have h1 := zk_nat h.1
  have h2 := h.2
  omega
/-- rounds from i on, n of them -/
def zfold {α : Type} (f : Nat → α → α) (i : Nat) : Nat → α → α
  | 0, a => a
  | n + 1, a => f (i + n) (zfold f i n a)
theorem zfold_inv {α : Type} {f : Nat → α → α} {i : Nat} {I : Nat → α → Prop} {a : α} : ∀ {n : Nat}, I 0 a → (∀ j b, j < n → I j b → I (j + 1) (f (i + j) b)) → I n (zfold f i n a)
  | 0, h0, _ => h0
  | n + 1, h0, hs => hs n _ (Nat.lt_succ_self n) (zfold_inv h0 (fun j b hj => hs j b (Nat.lt_succ_of_lt hj)))
theorem zfold_keep {α β : Type} {f : Nat → α → α} {i : Nat} (g : α → β) (h : ∀ j b, g (f j b) = g b) (n : Nat) (a : α) : g (zfold f i n a) = g a := by
  induction n with
  | zero => rfl
  | succ n ih => exact (h _ _).trans ih
theorem zfold_rel {α β : Type} {f : Nat → α → α} {f' : Nat → β → β} {i : Nat} {I : α → β → Prop} {a : α} {b : β} : ∀ {n : Nat}, I a b → (∀ j c d, j < n → I c d → I (f (i + j) c) (f' (i + j) d)) → I (zfold f i n a) (zfold f' i n b)
  | 0, h0, _ => h0
  | n + 1, h0, hs => hs n _ _ (Nat.lt_succ_self n) (zfold_rel h0 (fun j c d hj => hs j c d (Nat.lt_succ_of_lt hj)))
theorem zk_cg {P : Int32 → Prop} {v : Int32} (hx : 0 ≤ v.toInt) (h : P (Int32.ofNat v.toNatClampNeg)) : P v := by rwa [zk_of hx] at h
theorem zc_le {n i0 j : Nat} {B : Int32} (h : zn n B) (hj : j < B.toNatClampNeg - i0) (hn : n < 2147483648) : ¬ (B ≤ Int32.ofNat (i0 + j)) := zn_lt h (by omega) hn
theorem zc_le_end {n i0 : Nat} {B : Int32} (h : zn n B) (hn : n + i0 < 2147483648) : B ≤ Int32.ofNat (i0 + (B.toNatClampNeg - i0)) := by
  have h1 := zk_nat h.1
  have h2 := h.2
  rw [zk_le, zk_ti _ (by omega)]; omega
theorem zc_lt {n i0 j : Nat} {B : Int32} (h : zn n B) (hj : j < B.toNatClampNeg + 1 - i0) (hn : n < 2147483648) : ¬ (B < Int32.ofNat (i0 + j)) := by
  have h1 := zk_nat h.1
  have h2 := h.2
  rw [zk_lt, zk_ti _ (by omega)]; omega
theorem zc_lt_end {n i0 : Nat} {B : Int32} (h : zn n B) (hn : n + i0 < 2147483647) (hi : i0 ≤ 2147483647) : B < Int32.ofNat (i0 + (B.toNatClampNeg + 1 - i0)) := by
  have h1 := zk_nat h.1
  have h2 := h.2
  rw [zk_lt, zk_ti _ (by omega)]; omega
theorem zn_zb (P : Prop) [Decidable P] : zn 1 (zb P) := by unfold zn zb; split <;> decide
theorem zn_of {n N : Nat} (h : n ≤ N) (h2 : N < 2147483648 := by decide) : zn N (Int32.ofNat n) := by
  unfold zn; rw [zk_ti _ (by omega)]; omega
theorem zn_self {N : Nat} {x : Int32} (h : zn N x) : zn x.toNatClampNeg x := by
  have h1 := zk_nat h.1
  unfold zn at *; omega
theorem zn_succ {n : Nat} {x : Int32} (h : zn n x) (hn : n < 2147483647) : zn (n + 1) (x + 1) := by
  unfold zn at *
  rw [zk_tadd (by show _ ≤ x.toInt + 1; omega) (by show x.toInt + 1 < _; omega)]
  show 0 ≤ x.toInt + 1 ∧ x.toInt + 1 ≤ _
  omega
theorem zn_up {n : Nat} {x : Int32} (h : zn n x) : zn (n + 1) x := by unfold zn at *; omega
theorem zx_zn {n N : Nat} {x : Int32} (h : zn n x) (h2 : n < N) : zx N x := by rw [zx_iff]; unfold zn at h; omega
theorem zk_1 : (1 : Int32).toInt = 1 := rfl
theorem zx_d5 {n : Nat} (h : n < 40) : zx 8 (Int32.ofNat n / 5) := by
  rw [show (5 : Int32) = Int32.ofNat 5 from rfl, ← Int32.ofNat_div (by omega) (by omega)]
  exact zx_of (by omega) (by omega)
theorem zx_p3 {n k : Nat} (h : n < 40) (hk : k < 3) : zx 120 ((Int32.ofNat n * 3) + Int32.ofNat k) := by
  rw [show (3 : Int32) = Int32.ofNat 3 from rfl, ← Int32.ofNat_mul, ← Int32.ofNat_add]
  exact zx_of (by omega) (by omega)
theorem zx_p5 {n k : Nat} (h : n < 40) (hk : k < 5) : zx 200 ((5 * Int32.ofNat n) + Int32.ofNat k) := by
  rw [show (5 : Int32) = Int32.ofNat 5 from rfl, ← Int32.ofNat_mul, ← Int32.ofNat_add]
  exact zx_of (by omega) (by omega)
theorem zk_subn (i j : Nat) : Int32.ofNat (i + j) - Int32.ofNat i = Int32.ofNat j := by
  rw [Int32.ofNat_add, Int32.add_comm, Int32.add_sub_cancel]
/-- rounds until a condition holds -/
def zwl {α : Type} (c : α → Prop) [DecidablePred c] (f : α → α) : Nat → α → α
  | 0, a => a
  | n + 1, a => if c (zwl c f n a) then zwl c f n a else f (zwl c f n a)
theorem zwl_run {α : Type} {c : α → Prop} [DecidablePred c] {f : α → α} {L m h : Nat} {lv : α → List (Option zV)} {S : α → zS} {a : α} : ∀ {n : Nat}, (∀ j, j < n → ¬ c (zwl c f j a) → zt L m h (lv (zwl c f j a)) [] (S (zwl c f j a)) (.inl (h, lv (f (zwl c f j a)), [], S (f (zwl c f j a))))) → zt L m h (lv a) [] (S a) (.inl (h, lv (zwl c f n a), [], S (zwl c f n a)))
  | 0, _ => zt_rfl
  | n + 1, hs => by
    refine zt_trans (zwl_run (n := n) (fun j hj hc => hs j (Nat.lt_succ_of_lt hj) hc)) ?_
    by_cases hc : c (zwl c f n a)
    · simp only [zwl, if_pos hc]; exact zt_rfl
    · simp only [zwl, if_neg hc]; exact hs n (Nat.lt_succ_self n) hc
theorem zwl_inv {α : Type} {c : α → Prop} [DecidablePred c] {f : α → α} {I : α → Prop} {a : α} : ∀ {n : Nat}, I a → (∀ b, ¬ c b → I b → I (f b)) → I (zwl c f n a)
  | 0, h0, _ => h0
  | n + 1, h0, hs => by
    have h := zwl_inv (n := n) h0 hs
    unfold zwl
    by_cases hc : c (zwl c f n a)
    · rw [if_pos hc]; exact h
    · rw [if_neg hc]; exact hs _ hc h
theorem zte_2 {P Q : Prop} [Decidable P] [Decidable Q] {E C : zT} (h : P ∨ Q) : (if P then E else if Q then E else C) = E := by
  by_cases hp : P
  · rw [if_pos hp]
  · rw [if_neg hp, if_pos (h.resolve_left hp)]
theorem zn_pos {n : Nat} {x : Int32} (h : zn n x) (hn : n < 2147483647) : ¬ (x + 1 ≤ 0) := by
  unfold zn at h
  rw [zk_le, zk_tadd (by show _ ≤ x.toInt + 1; omega) (by show x.toInt + 1 < _; omega)]
  show ¬ (x.toInt + 1 ≤ 0)
  omega
theorem znc {n : Nat} {f g : Nat → Int32} {i : Nat} (h : f = g) (hg : zn n (g i)) : zn n (f i) := h ▸ hg
theorem zxc {n : Nat} {f g : Nat → Int32} {i : Nat} (h : f = g) (hg : zx n (g i)) : zx n (f i) := h ▸ hg
/-- slots of entries of the log -/
def zSl (N : Nat) (f g : Nat → Int32) : Prop := ∀ j, j < N → zx 864 ((4 * f j) + (zrem (g j) 4))
theorem znv {n : Nat} {x y : Int32} (h : x = y) (hg : zn n y) : zn n x := h ▸ hg
theorem zxv {n : Nat} {x y : Int32} (h : x = y) (hg : zx n y) : zx n x := h ▸ hg
