/-! the first state -/
def z0 (X : Nat → Int32) : zS := fun c =>
  if c = 1 then (fun i => if i = 0 then -1 else 0)
  else if c = 2 then (fun i => if i = 0 then 1 else if i = 3 then 1 else if i = 4 then 1000 else if i = 5 then 1000 else 0)
  else if c = 13 then (fun i => if i = 3 then -1 else if i = 13 then 1 else if i = 16 then 1000 else if i = 17 then 1000 else if i = 18 then 1 else 0)
  else if c = 15 then zNo
  else if c = 16 then (fun i => if i < 6 then -1 else 0)
  else if c = 18 then (fun i => if i < 6 then 100 else 0)
  else if c = 24 then (fun i => if i < 18 then -1 else 0)
  else if c = 82 then zNo
  else if c = 83 then zNo
  else if c = 84 then (fun i => if i < 6 then -1 else 0)
  else if c = 86 then (fun i => if i < 6 then 100 else 0)
  else if c = 106 then (fun i => if i < 18 then -1 else 0)
  else if c = 1000 then X
  else fun _ => 0
theorem zn00 (N : Nat) : zn N 0 := by
  unfold zn
  rw [zlt_0]; omega
theorem zx00 (N : Nat) (h : 0 < N) : zx N 0 := by rw [zx_iff, zlt_0]; omega
theorem z00a : ¬ (0 : Int32) = 2 := by decide
theorem z00b : ¬ (0 : Int32) = 1 := by decide
theorem z00c : -1 ≤ (0 : Int32).toInt ∧ (0 : Int32).toInt ≤ 7 := by decide
theorem z00d : -1 ≤ (0 : Int32).toInt ∧ (0 : Int32).toInt ≤ 20 := by decide
theorem z0_Seal (X : Nat → Int32) : zSeal (z0 X) (z0 X) := by
  unfold zSeal
  refine ⟨rfl, rfl, rfl, rfl, rfl, rfl, rfl, rfl, rfl, fun _ => ⟨rfl, rfl, rfl⟩, fun h => absurd rfl h, zCnt_no.symm, ?_, rfl, fun i hi _ => zNo_lt hi, zo_0, zo_0, zn00 _, zn00 _, ⟨zn00 _, zn00 _⟩, fun i hi => zNo_ge hi⟩
  intro i hi
  show -1 ≤ (zNo i).toInt ∧ (zNo i).toInt ≤ 256
  rw [zNo_lt hi]; decide
theorem z0_Key (X : Nat → Int32) : zKey 0 (z0 X) (z0 X) := by
  unfold zKey
  exact ⟨rfl, rfl, rfl, rfl, rfl, rfl, rfl, zn00 _, (show 1 ≤ (1 : Int32).toInt by decide), (show (1 : Int32).toInt ≤ 1 + 60 * ((0 : Nat) : Int) by decide)⟩
theorem z0_Eng (X : Nat → Int32) : zEng (z0 X) (z0 X) := by
  unfold zEng
  exact ⟨rfl, rfl, rfl, rfl, fun _ _ => zx00 _ (by decide)⟩
theorem z0_Rul (X : Nat → Int32) : zRul (z0 X) (z0 X) := by
  unfold zRul
  exact ⟨rfl, fun r _ => ⟨rfl, rfl, rfl, rfl, rfl, zn00 _, zn00 _, zn00 _, zn00 _, zn00 _⟩, fun _ _ => zn00 _⟩
theorem z0_Ppl (X : Nat → Int32) : zPpl (z0 X) (z0 X) := by
  unfold zPpl
  refine ⟨rfl, rfl, rfl, rfl, rfl, rfl, fun j hj => ?_⟩
  show -1 ≤ (if j < 18 then (-1 : Int32) else 0).toInt ∧ (if j < 18 then (-1 : Int32) else 0).toInt ≤ 7
  rw [if_pos hj]; decide
theorem z0_Tok (X : Nat → Int32) : zTok (z0 X) (z0 X) := by
  unfold zTok
  exact ⟨rfl, rfl, rfl, rfl, rfl, rfl, rfl, rfl, rfl, rfl, zn00 _, fun _ _ => rfl, fun _ h => absurd h z00a, fun _ h => absurd h (Nat.not_lt_zero _), fun _ => z00c, fun _ _ => rfl, fun _ => zo_0, fun _ => zo_0, fun _ => z00d, fun _ _ => Or.inr (zx00 _ (by decide))⟩
theorem z0_Lea (X : Nat → Int32) : zLea (z0 X) (z0 X) := by
  unfold zLea
  exact ⟨rfl, rfl, rfl, rfl, rfl, rfl, rfl, rfl, rfl, rfl, rfl, zn00 _, fun _ _ => zx00 _ (by decide), fun _ _ => zx00 _ (by decide), fun _ _ => zx00 _ (by decide), fun _ _ => rfl, fun _ h => absurd h z00b, fun _ _ => zn00 _, fun _ _ => rfl⟩
theorem z0_LT (X : Nat → Int32) : zLT (z0 X) (z0 X) := by
  unfold zLT
  exact fun _ h => absurd h (Nat.not_lt_zero _)
theorem z0_Use (X : Nat → Int32) : zUse (z0 X) (z0 X) := by
  unfold zUse
  exact fun _ h => absurd h (Nat.not_lt_zero _)
theorem z0_Sto (X : Nat → Int32) : zSto 0 (z0 X) (z0 X) := by
  unfold zSto
  exact ⟨rfl, rfl, rfl, fun _ _ => rfl, fun _ _ => zn00 _, fun _ => zn00 _, fun _ => zn00 _⟩
theorem z0_Far (X : Nat → Int32) : zFar 0 (z0 X) (z0 X) := by
  unfold zFar
  exact ⟨rfl, rfl, rfl, fun _ _ => rfl, fun _ _ => zn00 _⟩
theorem z0_Log (X : Nat → Int32) : zLog 0 (z0 X) (z0 X) := by
  unfold zLog
  refine ⟨zn00 _, zn00 _, Int.le_refl _, (show (0 : Int32) = 0 - 0 by decide), fun _ _ => zx00 _ (by decide), fun _ _ => zx00 _ (by decide), fun _ _ => zn00 _, fun _ h => absurd h (Nat.not_lt_zero _), ?_⟩
  have e : (z0 X 13 36).toNatClampNeg = 0 := rfl
  rw [e]
  unfold zRep
  exact fun p _ => ⟨rfl, fun v _ _ _ => rfl⟩
theorem z0_Wra (X : Nat → Int32) : zWra (z0 X) (z0 X) := by
  unfold zWra
  exact ⟨rfl, rfl, rfl, rfl, zn00 _, fun _ _ => rfl⟩
theorem z0_Cas (X : Nat → Int32) : zCas (z0 X) (z0 X) := by
  unfold zCas
  exact ⟨rfl, rfl, rfl, rfl, rfl, rfl, rfl, zn00 _, fun _ _ => ⟨rfl, rfl⟩, fun _ h => absurd h (Nat.not_lt_zero _), fun _ _ => zx00 _ (by decide), fun _ _ => zn00 _, fun _ _ => zn00 _, fun _ _ => zo_0⟩
theorem z0_Cer (X : Nat → Int32) : zCer (z0 X) (z0 X) := by
  unfold zCer
  exact ⟨rfl, rfl, rfl, rfl, rfl, rfl, zn00 _, fun _ h => absurd h (Nat.not_lt_zero _), fun _ h => absurd h (Nat.not_lt_zero _), fun _ => zo_0, fun _ => zo_0⟩
theorem z0_Sin (X : Nat → Int32) : zSin (z0 X) (z0 X) := by
  unfold zSin
  exact ⟨rfl, rfl, rfl, rfl, fun _ => zo_0, fun _ => zo_0⟩
theorem z0R (X : Nat → Int32) : zR 0 (z0 X) (z0 X) := ⟨z0_Seal X, z0_Key X, z0_Eng X, z0_Rul X, z0_Ppl X, z0_Tok X, z0_Lea X, z0_LT X, z0_Use X, z0_Sto X, z0_Far X, z0_Log X, z0_Wra X, z0_Cas X, z0_Cer X, z0_Sin X⟩
theorem zlaw0 {L : Nat} (hL : L ≤ 4608) (X : Nat → Int32) : ∃ o : zRes, zg L 372 (13, zlv 0 none none, [], z0 X) o ∧ o.1 = .inl (some (.inl 1)) ∧ o.2.2 ≤ 512 := zlaw hL (z0R X)
