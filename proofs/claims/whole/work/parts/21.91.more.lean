/-! bits -/
theorem zbit_set (x m : Int32) : (x &&& (m ^^^ (-1))) ||| m = x ||| m := by
  have e : ∀ i, i < 32 → ((-1 : Int32).toBitVec.getLsbD i) = true := by decide
  have h : ((x &&& (m ^^^ (-1))) ||| m).toBitVec = (x ||| m).toBitVec := by
    rw [Int32.toBitVec_or, Int32.toBitVec_and, Int32.toBitVec_xor, Int32.toBitVec_or]
    apply BitVec.eq_of_getLsbD_eq
    intro i hi
    rw [BitVec.getLsbD_or, BitVec.getLsbD_and, BitVec.getLsbD_xor, BitVec.getLsbD_or, e i hi]
    cases x.toBitVec.getLsbD i <;> cases m.toBitVec.getLsbD i <;> rfl
  exact Int32.toBitVec_inj.mp h
theorem zor_0 (x : Int32) : x ||| 0 = x := by
  apply Int32.toBitVec_inj.mp
  rw [Int32.toBitVec_or]
  apply BitVec.eq_of_getLsbD_eq
  intro i hi
  rw [BitVec.getLsbD_or]
  have e : ∀ i, i < 32 → ((0 : Int32).toBitVec.getLsbD i) = false := by decide
  rw [e i hi, Bool.or_false]
theorem zlt_0 : (0 : Int32).toInt = 0 := rfl
theorem zlt_1 : (1 : Int32).toInt = 1 := rfl
theorem zlt_2 : (2 : Int32).toInt = 2 := rfl
theorem zlt_3 : (3 : Int32).toInt = 3 := rfl
theorem zlt_4 : (4 : Int32).toInt = 4 := rfl
theorem zlt_5 : (5 : Int32).toInt = 5 := rfl
theorem zlt_6 : (6 : Int32).toInt = 6 := rfl
theorem zlt_7 : (7 : Int32).toInt = 7 := rfl
theorem zlt_8 : (8 : Int32).toInt = 8 := rfl
theorem zlt_9 : (9 : Int32).toInt = 9 := rfl
theorem zlt_10 : (10 : Int32).toInt = 10 := rfl
theorem zlt_15 : (15 : Int32).toInt = 15 := rfl
theorem zlt_16 : (16 : Int32).toInt = 16 := rfl
theorem zlt_20 : (20 : Int32).toInt = 20 := rfl
theorem zlt_24 : (24 : Int32).toInt = 24 := rfl
theorem zlt_30 : (30 : Int32).toInt = 30 := rfl
theorem zlt_36 : (36 : Int32).toInt = 36 := rfl
theorem zlt_39 : (39 : Int32).toInt = 39 := rfl
theorem zlt_40 : (40 : Int32).toInt = 40 := rfl
theorem zlt_50 : (50 : Int32).toInt = 50 := rfl
theorem zlt_72 : (72 : Int32).toInt = 72 := rfl
theorem zlt_100 : (100 : Int32).toInt = 100 := rfl
theorem zlt_199 : (199 : Int32).toInt = 199 := rfl
theorem zlt_200 : (200 : Int32).toInt = 200 := rfl
theorem zlt_215 : (215 : Int32).toInt = 215 := rfl
theorem zlt_216 : (216 : Int32).toInt = 216 := rfl
theorem zlt_255 : (255 : Int32).toInt = 255 := rfl
theorem zlt_256 : (256 : Int32).toInt = 256 := rfl
theorem zlt_1000 : (1000 : Int32).toInt = 1000 := rfl
theorem zlt_9999 : (9999 : Int32).toInt = 9999 := rfl
theorem zlt_65535 : (65535 : Int32).toInt = 65535 := rfl
theorem zlt_1000000000 : (1000000000 : Int32).toInt = 1000000000 := rfl
theorem zlt_m1 : (-1 : Int32).toInt = -1 := rfl
theorem zcl_lt {f : Nat → Int32} {i : Nat} (h : i < 7) : zcl f i = -1 := if_pos h
theorem zcl_ge {f : Nat → Int32} {i : Nat} (h : 7 ≤ i) : zcl f i = f i := if_neg (by omega)
