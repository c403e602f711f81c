/-! shares: what the last ones tell -/
def jS0 : zS := fun _ _ => 0
/-- a share's weight: n shares, k needed, the last ones given -/
def jwt (n k i : Nat) : Int32 := zfold (fun j (a : Int32) => if n < k + j ∧ j ≤ n then (if Int32.ofNat j = Int32.ofNat i then a else zrem ((zrem (a * (Int32.ofNat j)) 257) * (K98_6_c1 (F323 ((Int32.ofNat j) - (Int32.ofNat i)) 257 jS0) 1 (F323 ((Int32.ofNat j) - (Int32.ofNat i)) 257 jS0) 0 jS0)) 257) else a) 1 n 1
def jW (n k i : Nat) : Int := if n < k + i ∧ i ≤ n then (jwt n k i).toInt else 0
def jsm (g : Nat → Int) : Nat → Int
  | 0 => 0
  | m + 1 => jsm g m + g (m + 1)
theorem jsm_cg {g h : Nat → Int} : ∀ {m : Nat}, (∀ i, 1 ≤ i → i ≤ m → g i = h i) → jsm g m = jsm h m
  | 0, _ => rfl
  | m + 1, e => by unfold jsm; rw [jsm_cg (m := m) (fun i h1 h2 => e i h1 (by omega)), e (m + 1) (by omega) (Nat.le_refl _)]
theorem jsm_add (g h : Nat → Int) : ∀ m : Nat, jsm (fun i => g i + h i) m = jsm g m + jsm h m
  | 0 => rfl
  | m + 1 => by unfold jsm; rw [jsm_add g h m]; omega
theorem jsm_mul (c : Int) (g : Nat → Int) : ∀ m : Nat, jsm (fun i => c * g i) m = c * jsm g m
  | 0 => by unfold jsm; rw [Int.mul_zero]
  | m + 1 => by unfold jsm; rw [jsm_mul c g m, Int.mul_add]
def jwb (n k : Nat) : Bool := (List.range 7).all (fun i => decide (0 ≤ jW n k i) && decide (jW n k i ≤ 256)) && (List.range k).all (fun d => decide (jsm (fun i => ((i : Int) ^ d) * jW n k i) n % 257 = if d = 0 then 1 else 0))
theorem jwb_ok : ∀ n, n < 7 → ∀ k, k < 7 → (Nat.ble n 0 || Nat.ble k 0 || Nat.ble (n + 1) k || jwb n k) = true := by decide +kernel
theorem jw_h {n k : Nat} (hn : 1 ≤ n ∧ n ≤ 6) (hk : 1 ≤ k ∧ k ≤ n) : (∀ i, i < 7 → 0 ≤ jW n k i ∧ jW n k i ≤ 256) ∧ (∀ d, d < k → jsm (fun i => ((i : Int) ^ d) * jW n k i) n % 257 = if d = 0 then 1 else 0) := by
  have h := jwb_ok n (by omega) k (by omega)
  simp only [Bool.or_eq_true] at h
  rcases h with ((h | h) | h) | h
  · have := Nat.le_of_ble_eq_true h; omega
  · have := Nat.le_of_ble_eq_true h; omega
  · have := Nat.le_of_ble_eq_true h; omega
  · unfold jwb at h
    simp only [Bool.and_eq_true, List.all_eq_true, List.mem_range, decide_eq_true_eq] at h
    exact ⟨fun i hi => h.1 i hi, fun d hd => h.2 d hd⟩
/-- a polynomial's value -/
def jEv (co : Nat → Int) (i : Nat) : Nat → Int
  | 0 => 0
  | d + 1 => jEv co i d + co d * (i : Int) ^ d
theorem jlag {n k : Nat} (hn : 1 ≤ n ∧ n ≤ 6) (hk : 1 ≤ k ∧ k ≤ n) (co : Nat → Int) : ∀ d, d + 1 ≤ k → ∃ q : Int, jsm (fun i => jEv co i (d + 1) * jW n k i) n = co 0 + 257 * q
  | 0, h => by
    have h1 := (jw_h hn hk).2 0 (by omega)
    rw [if_pos rfl] at h1
    have e : jsm (fun i => jEv co i (0 + 1) * jW n k i) n = co 0 * jsm (fun i => ((i : Int) ^ 0) * jW n k i) n := by
      rw [← jsm_mul]
      refine jsm_cg (fun i _ _ => ?_)
      show (0 + co 0 * (i : Int) ^ 0) * jW n k i = _
      rw [Int.zero_add, Int.mul_assoc]
    refine ⟨co 0 * (jsm (fun i => ((i : Int) ^ 0) * jW n k i) n / 257), ?_⟩
    rw [e]
    have e2 := Int.mul_ediv_add_emod (jsm (fun i => ((i : Int) ^ 0) * jW n k i) n) 257
    rw [h1] at e2
    generalize jsm (fun i => ((i : Int) ^ 0) * jW n k i) n = X at e2 ⊢
    generalize X / 257 = Y at e2 ⊢
    rw [← e2, Int.mul_add, Int.mul_one, Int.mul_left_comm, Int.add_comm]
  | d + 1, h => by
    obtain ⟨q, hq⟩ := jlag hn hk co d (by omega)
    have h1 := (jw_h hn hk).2 (d + 1) (by omega)
    rw [if_neg (by omega)] at h1
    have e : jsm (fun i => jEv co i (d + 1 + 1) * jW n k i) n = jsm (fun i => jEv co i (d + 1) * jW n k i) n + co (d + 1) * jsm (fun i => ((i : Int) ^ (d + 1)) * jW n k i) n := by
      rw [← jsm_mul, ← jsm_add]
      refine jsm_cg (fun i _ _ => ?_)
      show (jEv co i (d + 1) + co (d + 1) * (i : Int) ^ (d + 1)) * jW n k i = _
      rw [Int.add_mul, Int.mul_assoc]
    have e2 := Int.mul_ediv_add_emod (jsm (fun i => ((i : Int) ^ (d + 1)) * jW n k i) n) 257
    rw [h1] at e2
    refine ⟨q + co (d + 1) * (jsm (fun i => ((i : Int) ^ (d + 1)) * jW n k i) n / 257), ?_⟩
    rw [e, hq]
    generalize jsm (fun i => ((i : Int) ^ (d + 1)) * jW n k i) n = X at e2 ⊢
    generalize X / 257 = Y at e2 ⊢
    rw [← e2, Int.add_zero, Int.mul_left_comm, Int.mul_add]
    omega
theorem jk_257 : (257 : Int32).toInt = 257 := rfl
/-- the weights, as the class has them -/
theorem jw97 {S : zS} {n k i : Nat} (hn : n ≤ 6) (h11 : S 1 1 = Int32.ofNat n) (h15 : ∀ j, j < 7 → (S 15 j = -1 ↔ ¬ (n < k + j ∧ j ≤ n))) : K97_4_c2 (Int32.ofNat i) 1 1 S = jwt n k i := by
  unfold K97_4_c2 K97_4 jwt
  rw [h11, zk_ix n (by omega), Nat.add_sub_cancel]
  refine zfold_rel (f := k97_4 (Int32.ofNat i) S) (i := 1) (I := fun (a b : Int32) => a = b) rfl (fun j a b hj hI => ?_)
  subst hI
  unfold k97_4
  by_cases hg : n < k + (1 + j) ∧ 1 + j ≤ n
  · rw [if_neg (fun e => (h15 (1 + j) (by omega)).mp e hg), if_pos hg]; rfl
  · rw [if_pos ((h15 (1 + j) (by omega)).mpr hg), if_neg hg]
/-- shares of a polynomial tell its value at 0 -/
theorem jpol_of {r n k : Int32} {f : Nat → Int32} (hn : 1 ≤ n.toInt ∧ n.toInt ≤ 6) (hk : 1 ≤ k.toInt ∧ k.toInt ≤ n.toInt) (co : Nat → Int) (hr : r.toInt = co 0) (hr1 : 0 ≤ co 0 ∧ co 0 ≤ 256) (hf : ∀ i, 1 ≤ i → i ≤ n.toNatClampNeg → 0 ≤ (f i).toInt ∧ (f i).toInt ≤ 256 ∧ ∃ q : Int, (f i).toInt = jEv co i k.toNatClampNeg + 257 * q) : jPol r n k f := by
  intro S h11 h15
  have hn1 := zk_nat (x := n) (by omega)
  have hk1 := zk_nat (x := k) (by omega)
  have hno := zk_of (x := n) (by omega)
  have hg : ∀ j, j < 7 → (S 15 j = -1 ↔ ¬ (n.toNatClampNeg < k.toNatClampNeg + j ∧ j ≤ n.toNatClampNeg)) := fun j hj => by
    rw [h15 j hj]
    by_cases c : n.toInt - k.toInt < (j : Int) ∧ (j : Int) ≤ n.toInt
    · rw [if_pos c]
      refine ⟨fun e => ?_, fun e => absurd (by omega) e⟩
      have := (hf j (by omega) (by omega)).1
      rw [e] at this; exact absurd this (by decide)
    · rw [if_neg c]; exact ⟨fun _ => by omega, fun _ => rfl⟩
  have hW := (jw_h (n := n.toNatClampNeg) (k := k.toNatClampNeg) (by omega) (by omega)).1
  have key : 0 ≤ (K96_4_c1 0 1 S).toInt ∧ (K96_4_c1 0 1 S).toInt ≤ 256 ∧ ∃ q : Int, (K96_4_c1 0 1 S).toInt = jsm (fun i => jEv co i k.toNatClampNeg * jW n.toNatClampNeg k.toNatClampNeg i) n.toNatClampNeg + 257 * q := by
    unfold K96_4_c1 K96_4
    rw [h11, Nat.add_sub_cancel]
    refine zfold_inv (f := k96_4 S) (i := 1) (n := n.toNatClampNeg) (a := (0 : Int32)) (I := fun m (v : Int32) => 0 ≤ v.toInt ∧ v.toInt ≤ 256 ∧ ∃ q : Int, v.toInt = jsm (fun i => jEv co i k.toNatClampNeg * jW n.toNatClampNeg k.toNatClampNeg i) m + 257 * q) ⟨Int.le_refl _, by decide, 0, rfl⟩ (fun m v hm hI => ?_)
    obtain ⟨i1, i2, q, i3⟩ := hI
    show 0 ≤ (k96_4 S (1 + m) v).toInt ∧ (k96_4 S (1 + m) v).toInt ≤ 256 ∧ ∃ q : Int, (k96_4 S (1 + m) v).toInt = (jsm (fun i => jEv co i k.toNatClampNeg * jW n.toNatClampNeg k.toNatClampNeg i) m + jEv co (m + 1) k.toNatClampNeg * jW n.toNatClampNeg k.toNatClampNeg (m + 1)) + 257 * q
    unfold k96_4
    by_cases hgm : n.toNatClampNeg < k.toNatClampNeg + (1 + m) ∧ 1 + m ≤ n.toNatClampNeg
    · rw [if_neg (fun e => (hg (1 + m) (by omega)).mp e hgm)]
      rw [jw97 (n := n.toNatClampNeg) (k := k.toNatClampNeg) (by omega) (by rw [h11, hno]) hg]
      obtain ⟨f1, f2, q2, f3⟩ := hf (1 + m) (by omega) (by omega)
      have e15 : S 15 (1 + m) = f (1 + m) := by rw [h15 (1 + m) (by omega), if_pos (by omega)]
      rw [e15]
      have hWm := hW (1 + m) (by omega)
      have eW : jW n.toNatClampNeg k.toNatClampNeg (1 + m) = (jwt n.toNatClampNeg k.toNatClampNeg (1 + m)).toInt := by unfold jW; rw [if_pos hgm]
      rw [eW] at hWm
      generalize hw : jwt n.toNatClampNeg k.toNatClampNeg (1 + m) = w at hWm eW ⊢
      have m0 : 0 ≤ (f (1 + m)).toInt * w.toInt := Int.mul_nonneg f1 hWm.1
      have m1 : (f (1 + m)).toInt * w.toInt ≤ 256 * 256 := Int.mul_le_mul f2 hWm.2 hWm.1 (by decide)
      have e1 : (f (1 + m) * w).toInt = (f (1 + m)).toInt * w.toInt := zk_tmul (by omega) (by omega)
      have e2 : (v + f (1 + m) * w).toInt = v.toInt + (f (1 + m)).toInt * w.toInt := by rw [zk_tadd (by omega) (by omega), e1]
      have e3 := zrem_nn (x := v + f (1 + m) * w) (y := 257) (by decide) (by omega)
      rw [jk_257] at e3
      have e4 := Int.mul_ediv_add_emod ((v + f (1 + m) * w).toInt) 257
      rw [← e3] at e4
      rw [show m + 1 = 1 + m by omega, eW]
      refine ⟨by omega, by omega, q + q2 * w.toInt - ((v + f (1 + m) * w).toInt) / 257, ?_⟩
      have e5 : (f (1 + m)).toInt * w.toInt = jEv co (1 + m) k.toNatClampNeg * w.toInt + 257 * (q2 * w.toInt) := by rw [f3, Int.add_mul, Int.mul_assoc]
      generalize (v + f (1 + m) * w).toInt / 257 = Z at e4 ⊢
      rw [e2, e5] at e4
      omega
    · rw [if_pos ((hg (1 + m) (by omega)).mpr hgm)]
      have eW : jW n.toNatClampNeg k.toNatClampNeg (m + 1) = 0 := by unfold jW; rw [if_neg (by omega)]
      rw [eW, Int.mul_zero, Int.add_zero]
      exact ⟨i1, i2, q, i3⟩
  obtain ⟨k1, k2, q, k3⟩ := key
  obtain ⟨q2, k4⟩ := jlag (n := n.toNatClampNeg) (k := k.toNatClampNeg) (by omega) (by omega) co (k.toNatClampNeg - 1) (by omega)
  rw [show k.toNatClampNeg - 1 + 1 = k.toNatClampNeg by omega] at k4
  rw [zk_eq, hr]
  rw [k4] at k3
  omega
