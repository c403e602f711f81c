/-! a machine of one's own for the methods of the tables: what an instruction does, what a call does -/
abbrev zV : Type := Int32 ⊕ (Int32 ⊕ Nat)
abbrev zS : Type := Nat → Nat → Int32
abbrev zCfg : Type := Nat × List (Option zV) × List zV × zS
abbrev zO : Type := zCfg ⊕ ((Nat × List zV × zCfg) ⊕ (Option zV ⊕ Nat))
abbrev zRes : Type := (Option zV ⊕ Nat) × zS × Nat
def z_up (S : zS) (j i : Nat) (v : Int32) : zS := fun a => if a = j then upd (S j) i v else S a
def z_y (m : Nat) : MethodName := z_ys.getD m ⟨"", "", ""⟩
def z_b (m : Nat) : ByteArray := z_bs.getD m ⟨#[]⟩
def z_m (m : Nat) : Nat × Option FieldType × Nat × Nat × Nat × Nat := z_ms.getD m (0, none, 0, 0, 0, 0)
def z_ml (m : Nat) : Nat := (z_m m).1
def z_rt (m : Nat) : Option FieldType := (z_m m).2.1
def z_st (m : Nat) : Nat := (z_m m).2.2.1
def z_na (m : Nat) : Nat := (z_m m).2.2.2.1
def z_fr (m : Nat) : Nat := (z_m m).2.2.2.2.1
def z_lo (m : Nat) : Nat := (z_m m).2.2.2.2.2
def z_pc (m i : Nat) : Nat := (z_pcs.getD m []).getD i 0
def z_ins (m i : Nat) : Option zI := (z_codes.getD m [])[i]?
def z_th (m : Nat) : List (Nat × Nat × Nat × Nat × Nat × Nat) := z_hs.getD m []
def z_tb (m : Nat) : List (Nat × Nat × Nat × Nat) := z_hh.getD m []
def z_w4 (m : Nat) : Nat × Nat × Nat × Nat := z_ws4.getD m (0, 0, 0, 0)
def z_cat (v : zV) : Nat := match v with
  | .inr (.inl _) => 2
  | _ => 1
def z_cats (r : List zV) : Nat := (r.map z_cat).sum
def z_ent (k : Nat) (as : List zV) : List (Option zV) := as.map some ++ List.replicate (z_ml k - as.length) none
def z_bin (o : Nat) (x y : Int32) : Option Int32 := match o with
  | 0 => some (x + y)
  | 1 => some (x - y)
  | 2 => some (x * y)
  | 3 => if y = 0 then none else some (x / y)
  | 4 => if y = 0 then none else some (x - x / y * y)
  | 5 => some (x &&& y)
  | 6 => some (x ||| y)
  | 7 => some (x ^^^ y)
  | 8 => some (x <<< (y &&& 31))
  | 9 => some (x >>> (y &&& 31))
  | 10 => some (x.toUInt32 >>> (y.toUInt32 &&& Int32.toUInt32 31)).toInt32
  | _ => none
def z_br (o : Nat) (x y : Int32) (A B : Option zO) : Option zO := match o with
  | 0 => if x = y then A else B
  | 1 => if x = y then B else A
  | 2 => if x < y then A else B
  | 3 => if y ≤ x then A else B
  | 4 => if y < x then A else B
  | 5 => if x ≤ y then A else B
  | _ => none
def z_sel (ps : List (Int × Nat)) (d : Nat) (x : Int32) (f : Nat → Option zO) : Option zO := match ps with
  | [] => f d
  | p :: r => if x.toInt = p.1 then f p.2 else z_sel r d x f
/-- the class's place of a method -/
def z_cls (m : Nat) : String := (z_y m).cls
def z_call (a n : Nat) (pc : Nat) (lv : List (Option zV)) (st : List zV) (S : zS) : Option zO :=
  if z_cats (st.drop n) ≤ 8 ∧ n ≤ st.length ∧ (st.take n).all (fun v => z_cat v == 1) = true then some (.inr (.inl (a, (st.take n).reverse, (pc + 1, lv, st.drop n, S)))) else none
/-- one instruction: the next place, a call, an answer, a throw -/
def z_ex (L : Nat) (pc : Nat) (lv : List (Option zV)) (st : List zV) (S : zS) (op a : Nat) (b : Int) : Option zO :=
  match op with
  | 0 => some (.inl (pc + 1, lv, .inl (Int32.ofInt b) :: st, S))
  | 1 => match lv[a]? with
    | some (some (.inl x)) => some (.inl (pc + 1, lv, .inl x :: st, S))
    | _ => none
  | 2 => match lv[a]? with
    | some (some (.inr (.inr k))) => some (.inl (pc + 1, lv, .inr (.inr k) :: st, S))
    | _ => none
  | 3 => match st with
    | .inl x :: r => if a < lv.length then some (.inl (pc + 1, lv.set a (some (.inl x)), r, S)) else none
    | _ => none
  | 4 => match st with
    | .inr (.inr k) :: r => if a < lv.length then some (.inl (pc + 1, lv.set a (some (.inr (.inr k))), r, S)) else none
    | _ => none
  | 5 => match lv[a]? with
    | some (some (.inl x)) => some (.inl (pc + 1, lv.set a (some (.inl (x + Int32.ofInt b))), st, S))
    | _ => none
  | 6 => match st with
    | .inr (.inr k) :: r => match z_lay[k]? with
      | some (.inr (ci, fk)) => if ci = a then match fk[b.toNat]? with
          | some none => some (.inl (pc + 1, lv, .inl (S k b.toNat) :: r, S))
          | some (some j) => some (.inl (pc + 1, lv, .inr (.inr j) :: r, S))
          | none => none
        else none
      | _ => none
    | _ => none
  | 7 => match st with
    | .inl x :: .inr (.inr k) :: r => match z_lay[k]? with
      | some (.inr (ci, fk)) => if ci = a then match fk[b.toNat]? with
          | some none => some (.inl (pc + 1, lv, r, z_up S k b.toNat x))
          | _ => none
        else none
      | _ => none
    | _ => none
  | 8 => match st with
    | .inl i :: .inr (.inr k) :: r =>
      if k = 1000 then (if i < 0 ∨ L ≤ i.toNatClampNeg then none else some (.inl (pc + 1, lv, .inl (S 1000 i.toNatClampNeg) :: r, S))) else
      match z_lay[k]? with
      | some (.inl (t, n)) => if t = 0 then (if i < 0 ∨ n ≤ i.toNatClampNeg then none else some (.inl (pc + 1, lv, .inl (S k i.toNatClampNeg) :: r, S))) else none
      | _ => none
    | _ => none
  | 9 => match st with
    | .inl i :: .inr (.inr k) :: r => match z_lay[k]? with
      | some (.inl (t, n)) => if t = 1 then (if i < 0 ∨ n ≤ i.toNatClampNeg then none else some (.inl (pc + 1, lv, .inl (S k i.toNatClampNeg) :: r, S))) else none
      | _ => none
    | _ => none
  | 10 => match st with
    | .inl x :: .inl i :: .inr (.inr k) :: r => match z_lay[k]? with
      | some (.inl (t, n)) => if t = 0 then (if i < 0 ∨ n ≤ i.toNatClampNeg then none else some (.inl (pc + 1, lv, r, z_up S k i.toNatClampNeg x))) else none
      | _ => none
    | _ => none
  | 11 => match st with
    | .inl x :: .inl i :: .inr (.inr k) :: r => match z_lay[k]? with
      | some (.inl (t, n)) => if t = 1 then (if i < 0 ∨ n ≤ i.toNatClampNeg then none else if x = 0 ∨ x = 1 then some (.inl (pc + 1, lv, r, z_up S k i.toNatClampNeg x)) else none) else none
      | _ => none
    | _ => none
  | 12 => match st with
    | .inr (.inr k) :: r => if k = 1000 then some (.inl (pc + 1, lv, .inl (Int32.ofNat L) :: r, S)) else
      match z_lay[k]? with
      | some (.inl (_, n)) => some (.inl (pc + 1, lv, .inl (Int32.ofNat n) :: r, S))
      | _ => none
    | _ => none
  | 13 => match st with
    | .inl y :: .inl x :: r => match z_bin a x y with
      | some v => some (.inl (pc + 1, lv, .inl v :: r, S))
      | none => none
    | _ => none
  | 14 => match st with
    | v :: r => if z_cat v = 1 then some (.inl (pc + 1, lv, v :: v :: r, S)) else none
    | _ => none
  | 15 => match st with
    | v :: w :: r => if z_cat v = 1 ∧ z_cat w = 1 then some (.inl (pc + 1, lv, v :: w :: v :: w :: r, S)) else none
    | _ => none
  | 16 => match st with
    | v :: r => if z_cat v = 1 then some (.inl (pc + 1, lv, r, S)) else none
    | _ => none
  | 17 => some (.inl (a, lv, st, S))
  | 18 => match st with
    | .inl x :: r => z_br b.toNat x 0 (some (.inl (a, lv, r, S))) (some (.inl (pc + 1, lv, r, S)))
    | _ => none
  | 19 => match st with
    | .inl y :: .inl x :: r => z_br b.toNat x y (some (.inl (a, lv, r, S))) (some (.inl (pc + 1, lv, r, S)))
    | _ => none
  | 20 => match st with
    | .inl x :: r => z_sel (z_sw.getD a (0, [])).2 (z_sw.getD a (0, [])).1 x (fun t => some (.inl (t, lv, r, S)))
    | _ => none
  | 36 => match st with
    | .inl x :: r => z_sel (z_sw.getD a (0, [])).2 (z_sw.getD a (0, [])).1 x (fun t => some (.inl (t, lv, r, S)))
    | _ => none
  | 21 => match st.drop (z_na a) with
    | .inr (.inr k) :: _ => match z_lay[k]? with
      | some (.inr (ci, _)) => if ci = b.toNat then z_call a (z_na a + 1) pc lv st S else none
      | _ => none
    | _ => none
  | 32 => match st.drop (z_na a) with
    | .inr (.inr k) :: _ => match z_lay[k]? with
      | some (.inr (ci, _)) => if ci = b.toNat then z_call a (z_na a + 1) pc lv st S else none
      | _ => none
    | _ => none
  | 22 => z_call a (z_na a) pc lv st S
  | 34 => match st with
    | .inl x :: r => if z_cats r ≤ 8 then some (.inl (pc + 1, lv, .inl (x / 36) :: r, S)) else none
    | _ => none
  | 35 => z_call a (z_na a) pc lv st S
  | 23 => match st with
    | .inl y :: .inl x :: r => if z_cats r ≤ 8 then some (.inl (pc + 1, lv, .inl (if x < y then y else x) :: r, S)) else none
    | _ => none
  | 24 => match st with
    | .inl y :: .inl x :: r => if z_cats r ≤ 8 then some (.inl (pc + 1, lv, .inl (if y < x then y else x) :: r, S)) else none
    | _ => none
  | 25 => match st with
    | [.inl x] => some (.inr (.inr (.inl (some (.inl x)))))
    | _ => none
  | 26 => match st with
    | [.inl x] => if x = 0 ∨ x = 1 then some (.inr (.inr (.inl (some (.inl x))))) else none
    | _ => none
  | 27 => match st with
    | [] => some (.inr (.inr (.inl none)))
    | _ => none
  | 28 => match st with
    | [.inr (.inr k)] => some (.inr (.inr (.inl (some (.inr (.inr k))))))
    | _ => none
  | 29 => match st with
    | [] => some (.inr (.inr (.inr a)))
    | _ => none
  | 30 => match st with
    | .inl x :: r => some (.inl (pc + 1, lv, .inr (.inl x) :: r, S))
    | _ => none
  | 31 => match st with
    | .inr (.inl x) :: .inl i :: .inr (.inr k) :: r => match z_lay[k]? with
      | some (.inl (t, n)) => if t = 2 then (if i < 0 ∨ n ≤ i.toNatClampNeg then none else some (.inl (pc + 1, lv, r, z_up S k i.toNatClampNeg x))) else none
      | _ => none
    | _ => none
  | 33 => match st with
    | .inl x :: .inr (.inr k) :: r => match z_lay[k]? with
      | some (.inr (ci, fk)) => if ci = a then match fk[b.toNat]? with
          | some none => if x = 0 ∨ x = 1 then some (.inl (pc + 1, lv, r, z_up S k b.toNat x)) else none
          | _ => none
        else none
      | _ => none
    | _ => none
  | 37 => match st with
    | .inl i :: .inr (.inr k) :: r => match z_lay[k]? with
      | some (.inl (t, n)) => if t = 2 then (if i < 0 ∨ n ≤ i.toNatClampNeg then none else some (.inl (pc + 1, lv, .inr (.inl (S k i.toNatClampNeg)) :: r, S))) else none
      | _ => none
    | _ => none
  | 38 => match st with
    | .inr (.inl y) :: .inr (.inl x) :: r => some (.inl (pc + 1, lv, .inl (lg_cmp x.toInt64 y.toInt64) :: r, S))
    | _ => none
  | 39 => some (.inl (pc + 1, lv, .inr (.inl (Int32.ofInt b)) :: st, S))
  | _ => none
def z_step (L m : Nat) (c : zCfg) : Option zO := match z_ins m c.1 with
  | some x => z_ex L c.1 c.2.1 c.2.2.1 c.2.2.2 x.1 x.2.1 x.2.2.1
  | none => none
def z_hd (hs : List (Nat × Nat × Nat × Nat × Nat × Nat)) (E : Nat) : Option Int32 := match hs with
  | [] => none
  | h :: r => if h.1 = E then some (Int32.ofNat h.2.2.2.2.2) else z_hd r E
def z_aft (m : Nat) (run : Nat → zCfg → Option zRes) (c' : zCfg) (r : Option zRes) : Option zRes := match r with
  | none => none
  | some (.inl r, S', e) => match run m (c'.1, c'.2.1, r.toList ++ c'.2.2.1, S') with
    | none => none
    | some (o, S2, e2) => some (o, S2, e + e2)
  | some (.inr E, S', e) => match z_hd (z_th m) E with
    | some v => some (.inl (some (.inl v)), S', e)
    | none => if (z_th m).isEmpty then some (.inr E, S', e) else none
def z_bod (run : Nat → zCfg → Option zRes) (m : Nat) (S : zS) (r : Option zO) : Option zRes := match r with
  | none => none
  | some (.inl c') => run m c'
  | some (.inr (.inl (k, as, c'))) => z_aft m run c' (run k (0, z_ent k as, [], c'.2.2.2))
  | some (.inr (.inr (.inl r))) => some (.inl r, S, 0)
  | some (.inr (.inr (.inr E))) => some (.inr E, S, 1)
def z_run (L : Nat) : Nat → Nat → zCfg → Option zRes
  | 0, _, _ => none
  | n + 1, m, c => z_bod (fun k c => z_run L n k c) m c.2.2.2 (z_step L m c)
theorem z_run_succ (L n m : Nat) (c : zCfg) : z_run L (n + 1) m c = z_bod (z_run L n) m c.2.2.2 (z_step L m c) := rfl
theorem z_run_mono1 (L : Nat) : ∀ n m c o, z_run L n m c = some o → z_run L (n + 1) m c = some o := by
  intro n
  induction n with
  | zero => intro m c o h; cases h
  | succ n ih =>
    intro m c o h
    rw [z_run_succ] at h ⊢
    rcases hs : z_step L m c with _ | (c' | (⟨k, as, c'⟩ | (r | E)))
    · rw [hs] at h; cases h
    · rw [hs] at h; exact ih _ _ _ h
    · rw [hs] at h
      show z_aft m (z_run L (n + 1)) c' (z_run L (n + 1) k (0, z_ent k as, [], c'.2.2.2)) = some o
      replace h : z_aft m (z_run L n) c' (z_run L n k (0, z_ent k as, [], c'.2.2.2)) = some o := h
      rcases h1 : z_run L n k (0, z_ent k as, [], c'.2.2.2) with _ | ⟨r | E, S', e⟩
      · rw [h1] at h; cases h
      · rw [ih _ _ _ h1]; rw [h1] at h
        simp only [z_aft] at h ⊢
        rcases h2 : z_run L n m (c'.1, c'.2.1, r.toList ++ c'.2.2.1, S') with _ | ⟨o2, S2, e2⟩
        · rw [h2] at h; cases h
        · rw [h2] at h; rw [ih _ _ _ h2]; exact h
      · rw [ih _ _ _ h1]; rw [h1] at h; exact h
    · rw [hs] at h; exact h
    · rw [hs] at h; exact h
theorem z_run_mono {L n m : Nat} {c : zCfg} {o : zRes} (h : z_run L n m c = some o) (k : Nat) : z_run L (n + k) m c = some o := by
  induction k with
  | zero => exact h
  | succ k ih => exact z_run_mono1 L _ _ _ _ ih
