/-! conditions in one form -/
theorem zti_ite {P : Prop} [Decidable P] (a b : Int32) : (if P then a else b).toInt = (if P then a.toInt else b.toInt) := by split <;> rfl
theorem zif_x1 {P : Prop} [Decidable P] {x : Int32} : ((if P then x else (1 : Int32)) = 0) = (P ∧ x = 0) := by by_cases h : P <;> simp [h]
theorem zif_x2 {P : Prop} [Decidable P] {x : Int32} : ((if P then x else (2 : Int32)) = 0) = (P ∧ x = 0) := by by_cases h : P <;> simp [h]
theorem zif_x3 {P : Prop} [Decidable P] {x : Int32} : ((if P then x else (3 : Int32)) = 0) = (P ∧ x = 0) := by by_cases h : P <;> simp [h]
theorem zif_1x {P : Prop} [Decidable P] {x : Int32} : ((if P then (1 : Int32) else x) = 0) = ((¬ P) ∧ x = 0) := by by_cases h : P <;> simp [h]
theorem zif_2x {P : Prop} [Decidable P] {x : Int32} : ((if P then (2 : Int32) else x) = 0) = ((¬ P) ∧ x = 0) := by by_cases h : P <;> simp [h]
theorem zif_3x {P : Prop} [Decidable P] {x : Int32} : ((if P then (3 : Int32) else x) = 0) = ((¬ P) ∧ x = 0) := by by_cases h : P <;> simp [h]
theorem zite_an {α : Type} {A B : Prop} [Decidable A] [Decidable B] {x y : α} : (if A then (if B then x else y) else y) = (if A ∧ B then x else y) := by by_cases h : A <;> by_cases h2 : B <;> simp [h, h2]
theorem zeq_top {n : Nat} {x c : Int32} (h : zn n x) (hc : c.toInt = n) : (x = c) = (¬ (x < c)) := by
  unfold zn at h
  rw [zk_eq, zk_lt]
  exact propext ⟨fun h => by omega, fun h => by omega⟩
theorem zmin_i (x y : Int32) : zmin x y = (if y ≤ x then y else x) := by
  unfold zmin
  by_cases h : y < x
  · rw [if_pos h, if_pos (by rw [zk_lt] at h; rw [zk_le]; omega)]
  · rw [if_neg h]
    by_cases h2 : y ≤ x
    · rw [if_pos h2]; rw [zk_lt] at h; rw [zk_le] at h2; exact zk_eq.mpr (by omega)
    · rw [if_neg h2]
theorem zmin_3 (x y z : Int32) : zmin x (zmin y z) = (if z ≤ (if y ≤ x then y else x) then z else (if y ≤ x then y else x)) := by
  rw [zmin_i, zmin_i, zk_eq]
  simp only [zk_le, zti_ite]
  (repeat' split) <;> omega
theorem zupd_s (f : Nat → Int32) (j : Nat) (v : Int32) (h : f j = v) : upd f j v = f := by
  funext i
  rw [upd_r]
  split
  · rename_i e; rw [e, h]
  · rfl
