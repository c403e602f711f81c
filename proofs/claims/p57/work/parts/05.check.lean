/-! what is checked of each instruction of the tables: its bytes, its words -/
def z_T : List Cond := lw_tbl.filter goodWord
def z_tt : List (List Cond) := [tables_1_1, tables_1_2, tables_1_3, tables_1_4, tables_1_5, tables_1_6, k2_sels lw_privs_1, k2_sels lw_privs_2]
def z_at (k : Nat) : Option Cond := (z_tt.getD (k / 256) [])[k % 256]?
def z_w (k : Nat) (w : Cond) : Bool := decide (z_at k = some w) && goodWord w
theorem z_sels_app (a b : List (MethodName × Nat)) : k2_sels (a ++ b) = k2_sels a ++ k2_sels b := List.map_append
theorem z_tt_in : ∀ t ∈ z_tt, ∀ w ∈ t, w ∈ lw_tbl := by
  intro t ht w hw
  show w ∈ k2_sels lw_privs ++ tables_1
  simp only [z_tt, List.mem_cons, List.not_mem_nil, or_false] at ht
  simp only [lw_privs, z_sels_app, tables_1, List.mem_append]
  rcases ht with rfl | rfl | rfl | rfl | rfl | rfl | rfl | rfl <;> simp only [hw, true_or, or_true]
theorem z_w_in {k : Nat} {w : Cond} (h : z_w k w = true) : w ∈ z_T := by
  simp only [z_w, Bool.and_eq_true, decide_eq_true_eq] at h
  obtain ⟨h1, h2⟩ := h
  have h3 : w ∈ z_tt.getD (k / 256) [] := List.mem_of_getElem? h1
  rcases hj : z_tt[k / 256]? with _ | t
  · rw [List.getD_eq_getElem?_getD, hj] at h3; simp at h3
  · rw [List.getD_eq_getElem?_getD, hj] at h3
    exact List.mem_filter.mpr ⟨z_tt_in t (List.mem_of_getElem? hj) w h3, h2⟩
def z_ifk (c : Jvm.ClassFile.Cond) : Nat := match c with
  | .eq => 0
  | .ne => 1
  | .lt => 2
  | .ge => 3
  | .gt => 4
  | .le => 5
def z_bi (a : Nat) : Instr := match a with
  | 0 => .iadd
  | 1 => .isub
  | 2 => .imul
  | 3 => .idiv
  | 4 => .irem
  | 5 => .iand
  | 6 => .ior
  | 7 => .ixor
  | 8 => .ishl
  | 9 => .ishr
  | 10 => .iushr
  | _ => .nop
def z_d (b : ByteArray) (pc np : Nat) (i : Instr) (n : Nat) : Bool := decide (decode b pc = .ok (i, n)) && decide (np = pc + n)
def z_exn (E : Nat) : String := match E with
  | 0 => "java/lang/IndexOutOfBoundsException"
  | 1 => "java/lang/IllegalArgumentException"
  | _ => "java/lang/IllegalStateException"
/-- the field's row: its word, its place -/
def z_fld (own : String) (ci s ix k : Nat) : Bool := match vwCl[ci]? with
  | some (_, T, N) => z_w k (.fieldLink own ix (T s).1 (T s).2.1 (T s).2.2.1) && decide (s < N)
  | none => false
def z_put (ci s : Nat) (ty : FieldType) : Bool := match vwCl[ci]? with
  | some (_, T, _) => decide ((T s).2.2.2 = false) && decide (parseFieldDescriptor (T s).2.2.1 = some ty)
  | none => false
/-- the callee's room in the caller's -/
def z_cal (m a : Nat) : Bool := decide (a < 338) && decide (z_fr a + 1 ≤ z_fr m) && decide (8 + (z_ml a + 11) + z_lo a ≤ z_lo m)
/-- the handlers: each leads to a store, a number and an answer -/
def z_hck (m pc : Nat) : Bool := decide ((z_tb m).map (fun h => (h.2.2.1, h.2.2.2)) = (z_th m).map (fun h => (h.2.1, h.2.2.1))) && (z_tb m).all (fun h => decide (h.1 ≤ pc) && decide (pc < h.2.1) && decide (h.2.2.2 ≠ 0)) && decide (z_rt m = some .int) && decide (z_cls m = RL) &&
  (z_th m).all (fun h => decide (h.1 < 3) && z_w h.2.2.2.1 (.classLink RL h.2.2.1 (z_exn h.1)) && decide (h.2.2.2.2.1 < z_ml m) && decide (Int32.ofInt (Int.ofNat h.2.2.2.2.2) = Int32.ofNat h.2.2.2.2.2) &&
    ((decide (h.2.2.2.2.1 < 4) && decide (decode (z_b m) h.2.1 = .ok (.astore_n (Fin.ofNat 4 h.2.2.2.2.1), 1)) && decide (decode (z_b m) (h.2.1 + 1) = .ok (.iconst (Int.ofNat h.2.2.2.2.2), 1)) && decide (decode (z_b m) (h.2.1 + 2) = .ok (.ireturn, 1))) ||
     (decide (decode (z_b m) h.2.1 = .ok (.astore h.2.2.2.2.1, 2)) && decide (decode (z_b m) (h.2.1 + 2) = .ok (.iconst (Int.ofNat h.2.2.2.2.2), 1)) && decide (decode (z_b m) (h.2.1 + 3) = .ok (.ireturn, 1))))) &&
  decide ((z_th m).Pairwise (fun a b => a.1 < b.1))
def z_okb (m i : Nat) (x : zI) : Bool :=
  let b := z_b m
  let pc := z_pc m i
  let np := z_pc m (i + 1)
  let own := z_cls m
  let a := x.2.1
  let v := x.2.2.1
  let ix := x.2.2.2.1
  let k := x.2.2.2.2
  match x.1 with
  | 0 => z_d b pc np (.iconst v) 1 || (z_d b pc np (.bipush v) 2 && decide ((Int8.ofInt v).toInt32 = Int32.ofInt v)) || (z_d b pc np (.sipush v) 3 && decide ((Int16.ofInt v).toInt32 = Int32.ofInt v)) || (z_d b pc np (.ldc ix) 2 && z_w k (.constant own ix (Int32.ofInt v))) || (z_d b pc np (.ldc_w ix) 3 && z_w k (.constant own ix (Int32.ofInt v)))
  | 1 => (z_d b pc np (.iload_n (Fin.ofNat 4 a)) 1 && decide (a < 4)) || z_d b pc np (.iload a) 2
  | 2 => (z_d b pc np (.aload_n (Fin.ofNat 4 a)) 1 && decide (a < 4)) || z_d b pc np (.aload a) 2
  | 3 => (z_d b pc np (.istore_n (Fin.ofNat 4 a)) 1 && decide (a < 4)) || z_d b pc np (.istore a) 2
  | 4 => (z_d b pc np (.astore_n (Fin.ofNat 4 a)) 1 && decide (a < 4)) || z_d b pc np (.astore a) 2
  | 5 => z_d b pc np (.iinc a v) 3
  | 6 => z_d b pc np (.getfield ix) 3 && z_fld own a v.toNat ix k
  | 7 => z_d b pc np (.putfield ix) 3 && z_fld own a v.toNat ix k && z_put a v.toNat .int
  | 33 => z_d b pc np (.putfield ix) 3 && z_fld own a v.toNat ix k && z_put a v.toNat .boolean
  | 8 => z_d b pc np .iaload 1
  | 9 => z_d b pc np .baload 1
  | 10 => z_d b pc np .iastore 1
  | 11 => z_d b pc np .bastore 1
  | 12 => z_d b pc np .arraylength 1
  | 13 => z_d b pc np (z_bi a) 1
  | 14 => z_d b pc np .dup 1
  | 15 => z_d b pc np .dup2 1
  | 16 => z_d b pc np .pop 1
  | 17 => match decode b pc with
    | .ok (.goto off, 3) => decide ((pc : Int) + off = (z_pc m a : Int))
    | _ => false
  | 18 => match decode b pc with
    | .ok (.ifCond cd off, 3) => decide ((pc : Int) + off = (z_pc m a : Int)) && decide (np = pc + 3) && decide (z_ifk cd = v.toNat)
    | _ => false
  | 19 => match decode b pc with
    | .ok (.if_icmp cd off, 3) => decide ((pc : Int) + off = (z_pc m a : Int)) && decide (np = pc + 3) && decide (z_ifk cd = v.toNat)
    | _ => false
  | 20 => match decode b pc with
    | .ok (.lookupswitch d ps, _) => (ps.toList.zip (ps.toList.drop 1)).all (fun (a, next) => a.1 < next.1) && decide ((pc : Int) + d = (z_pc m (z_sw.getD a (0, [])).1 : Int)) && decide (ps.toList.map (fun p => (p.1, (pc : Int) + p.2)) = (z_sw.getD a (0, [])).2.map (fun p => (p.1, (z_pc m p.2 : Int))))
    | _ => false
  | 36 => match decode b pc with
    | .ok (.tableswitch d lo hi offs, _) => decide ((pc : Int) + d = (z_pc m (z_sw.getD a (0, [])).1 : Int)) && decide (lo = 0) && decide (hi + 1 = (offs.size : Int)) && decide ((List.range offs.size).map (fun (j : Nat) => ((j : Int), (pc : Int) + offs.getD j 0)) = (z_sw.getD a (0, [])).2.map (fun p => (p.1, (z_pc m p.2 : Int))))
    | _ => false
  | 21 => z_d b pc np (.invokevirtual ix) 3 && z_w k (.methodLink own ix (z_y a)) && z_cal m a && decide (z_st a = 0) && (z_th m).isEmpty && (z_tb m).isEmpty && (z_tb a).isEmpty && decide ((vwCl[v.toNat]?).map (·.1) = some (z_cls a))
  | 32 => z_d b pc np (.invokevirtual ix) 3 && z_w k (.methodLink own ix (z_y a)) && z_cal m a && decide (z_st a = 0) && (z_tb a).isEmpty && decide ((vwCl[v.toNat]?).map (·.1) = some (z_cls a)) && !(z_th m).isEmpty && z_hck m pc
  | 22 => z_d b pc np (.invokestatic ix) 3 && z_w k (.methodLink own ix (z_y a)) && z_cal m a && decide (z_st a = 1) && (z_th m).isEmpty && (z_tb m).isEmpty && (z_tb a).isEmpty
  | 34 => z_d b pc np (.invokestatic 66) 3 && decide (a = 195) && decide (z_y a = yX11_firstOf) && decide (own = RX6) && z_cal m a && decide (z_st a = 1) && (z_th m).isEmpty && (z_tb m).isEmpty && (z_tb a).isEmpty
  | 35 => z_d b pc np (.invokestatic ix) 3 && z_w k (.methodLink own ix (z_y a)) && z_cal m a && decide (z_st a = 1) && (z_th m).isEmpty && (z_tb m).isEmpty && !(z_tb a).isEmpty
  | 23 => z_d b pc np (.invokestatic ix) 3 && z_w k (.methodLink own ix Lib.Math.max.name) && decide (1 ≤ z_fr m) && decide (21 ≤ z_lo m)
  | 24 => z_d b pc np (.invokestatic ix) 3 && z_w k (.methodLink own ix Lib.Math.min.name) && decide (1 ≤ z_fr m) && decide (21 ≤ z_lo m)
  | 25 => decide (decode b pc = .ok (.ireturn, 1)) && decide (z_rt m = some .int)
  | 26 => decide (decode b pc = .ok (.ireturn, 1)) && decide (z_rt m = some .boolean)
  | 27 => decide (decode b pc = .ok (.return_, 1)) && decide (z_rt m = none)
  | 28 => decide (decode b pc = .ok (.areturn, 1)) && (match z_rt m with | some (.object _) => true | _ => false)
  | 29 => decide (decode b pc = .ok (.new ix, 3)) && decide (decode b (pc + 3) = .ok (.dup, 1)) && decide (decode b (pc + 4) = .ok (.invokespecial v.toNat, 3)) && decide (decode b (pc + 7) = .ok (.athrow, 1)) && z_w k (.classLink own ix (z_exn a)) && decide (6 ≤ z_fr m) && decide (81 ≤ z_lo m) && (z_tb m).isEmpty && decide (a < 3 ∧ m = 185 + a ∧ own = RX11 ∧ v.toNat = 387 + 3 * a)
  | 30 => z_d b pc np .i2l 1
  | 31 => z_d b pc np .lastore 1
  | 37 => z_d b pc np .laload 1
  | 38 => z_d b pc np .lcmp 1
  | 39 => (z_d b pc np (.lconst 0) 1 && decide (v = 0)) || (z_d b pc np (.lconst 1) 1 && decide (v = 1))
  | _ => false
/-- all instructions of a method, but those that are not reached so -/
def z_okm (m : Nat) : Bool := (List.range (z_codes.getD m []).length).all fun i => match z_ins m i with
  | some x => decide (x.1 = 99) || z_okb m i x
  | none => true
/-- what is checked of a method: its words -/
def z_mok (m : Nat) : Bool :=
  (if (z_tb m).isEmpty then z_w (z_w4 m).1 (.code (z_y m) (z_b m) (z_ml m) (z_rt m)) else z_w (z_w4 m).1 (.codeWith (z_y m) (z_b m) (z_ml m) (z_rt m) (z_tb m))) &&
  (if z_st m = 1 then z_w (z_w4 m).2.1 (.static (z_y m)) else z_w (z_w4 m).2.1 (.instanceMethod (z_y m)) && z_w (z_w4 m).2.2.1 (.selects (z_cls m) (z_y m) (z_y m))) &&
  z_w (z_w4 m).2.2.2 (.initialized (z_cls m)) && plainFor (z_y m) && decide (z_cls m ≠ "java/lang/invoke/MethodHandle" ∧ z_cls m ≠ "java/lang/invoke/VarHandle") &&
  decide ((parseMethodDescriptor (z_y m).desc).map (fun d => d.parameters.length) = some (z_na m)) &&
  decide ((z_th m).isEmpty = (z_tb m).isEmpty) && decide (z_na m + (1 - z_st m) ≤ z_ml m)
