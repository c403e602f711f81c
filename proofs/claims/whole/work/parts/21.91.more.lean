/-! bits -/
theorem zbit_set (x m : Int32) : (x &&& (m ^^^ (-1))) ||| m = x ||| m := by
  have e : ∀ i, i < 32 → ((-1 : Int32).toBitVec.getLsbD i) = true := by decide
  have h : ((x &&& (m ^^^ (-1))) ||| m).toBitVec = (x ||| m).toBitVec := by
    rw [Int32.toBitVec_or, Int32.toBitVec_and, Int32.toBitVec_xor, Int32.toBitVec_or]
    apply BitVec.eq_of_getLsbD_eq
    intro i hi
    rw [BitVec.getLsbD_or, BitVec.getLsbD_and, BitVec.getLsbD_xor, BitVec.getLsbD_or, e i hi]
    cases x.toBitVec.getLsbD i <;> cases m.toBitVec.getLsbD i <;> rfl
  exact Int32.toBitVec_inj.mp h
theorem zor_0 (x : Int32) : x ||| 0 = x := by
  apply Int32.toBitVec_inj.mp
  rw [Int32.toBitVec_or]
  apply BitVec.eq_of_getLsbD_eq
  intro i hi
  rw [BitVec.getLsbD_or]
  have e : ∀ i, i < 32 → ((0 : Int32).toBitVec.getLsbD i) = false := by decide
  rw [e i hi, Bool.or_false]
