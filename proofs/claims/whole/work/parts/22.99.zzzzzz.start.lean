/-! the walk of the law's first instructions, up to its loop; the claim -/
theorem zk_good11 : GoodIn z_T zk_ws11 := z_goodIn (List.forall_mem_cons.mpr ⟨(z_w_in (k := 26) (by decide +kernel)), fun _ h => h⟩)
theorem zk_good12 : GoodIn z_T zk_ws12 := z_goodIn (List.forall_mem_cons.mpr ⟨(z_w_in (k := 1611) (by decide +kernel)), fun _ h => h⟩)
theorem zk_tT {args : Array Value} {s : State} (h : ∀ w ∈ lw_tbl, w.before args s = true) : ∀ w ∈ z_T, w.before args s = true := fun w hw => h w (List.mem_filter.mp hw).1
theorem zk_tin {i : Nat} {w : Cond} (h : tables_1[i]? = some w) : w ∈ lw_tbl := List.mem_append_right _ (List.mem_of_getElem? h)
/-- the classes, as the tables know them -/
theorem zk_known {args : Array Value} {s : State} (h : ∀ w ∈ z_T, w.before args s = true) : ∃ (dC : Nat → ClassId) (dI : Nat → Nat → Nat), ∀ (k : Nat) (q : vw_C), vwCl[k]? = some q → u_Kn s q.1 q.2.1 q.2.2 (dC k) (dI k) := by
  have H : ∀ k : Nat, ∃ (c : ClassId) (iS : Nat → Nat), ∀ q : vw_C, vwCl[k]? = some q → u_Kn s q.1 q.2.1 q.2.2 c iS := by
    intro k
    by_cases h0 : k = 0
    · subst h0
      obtain ⟨c, iS, hk⟩ := u_known (C := RX0) (T := TX0) (N := 6) (n := 6) h z_in0 (h (.instantiable RX0 6) (z_w_in (k := 342) (by decide +kernel)))
      exact ⟨c, iS, fun q hq => by cases hq; exact hk⟩
    by_cases h1 : k = 1
    · subst h1
      obtain ⟨c, iS, hk⟩ := u_known (C := RX1) (T := TX1) (N := 4) (n := 4) h z_in1 (h (.instantiable RX1 4) (z_w_in (k := 97) (by decide +kernel)))
      exact ⟨c, iS, fun q hq => by cases hq; exact hk⟩
    by_cases h2 : k = 2
    · subst h2
      obtain ⟨c, iS, hk⟩ := u_known (C := RX2) (T := TX2) (N := 7) (n := 7) h z_in2 (h (.instantiable RX2 7) (z_w_in (k := 272) (by decide +kernel)))
      exact ⟨c, iS, fun q hq => by cases hq; exact hk⟩
    by_cases h3 : k = 3
    · subst h3
      obtain ⟨c, iS, hk⟩ := u_known (C := RX3) (T := TX3) (N := 11) (n := 11) h z_in3 (h (.instantiable RX3 11) (z_w_in (k := 302) (by decide +kernel)))
      exact ⟨c, iS, fun q hq => by cases hq; exact hk⟩
    by_cases h4 : k = 4
    · subst h4
      obtain ⟨c, iS, hk⟩ := u_known (C := RX4) (T := TX4) (N := 6) (n := 6) h z_in4 (h (.instantiable RX4 6) (z_w_in (k := 72) (by decide +kernel)))
      exact ⟨c, iS, fun q hq => by cases hq; exact hk⟩
    by_cases h5 : k = 5
    · subst h5
      obtain ⟨c, iS, hk⟩ := u_known (C := RX5) (T := TX5) (N := 11) (n := 11) h z_in5 (h (.instantiable RX5 11) (z_w_in (k := 197) (by decide +kernel)))
      exact ⟨c, iS, fun q hq => by cases hq; exact hk⟩
    by_cases h6 : k = 6
    · subst h6
      obtain ⟨c, iS, hk⟩ := u_known (C := RX6) (T := TX6) (N := 10) (n := 10) h z_in6 (h (.instantiable RX6 10) (z_w_in (k := 116) (by decide +kernel)))
      exact ⟨c, iS, fun q hq => by cases hq; exact hk⟩
    by_cases h7 : k = 7
    · subst h7
      obtain ⟨c, iS, hk⟩ := u_known (C := RX7) (T := TX7) (N := 11) (n := 11) h z_in7 (h (.instantiable RX7 11) (z_w_in (k := 31) (by decide +kernel)))
      exact ⟨c, iS, fun q hq => by cases hq; exact hk⟩
    by_cases h8 : k = 8
    · subst h8
      obtain ⟨c, iS, hk⟩ := u_known (C := RX8) (T := TX8) (N := 4) (n := 4) h z_in8 (h (.instantiable RX8 4) (z_w_in (k := 367) (by decide +kernel)))
      exact ⟨c, iS, fun q hq => by cases hq; exact hk⟩
    by_cases h9 : k = 9
    · subst h9
      obtain ⟨c, iS, hk⟩ := u_known (C := RX9) (T := TX9) (N := 4) (n := 4) h z_in9 (h (.instantiable RX9 4) (z_w_in (k := 237) (by decide +kernel)))
      exact ⟨c, iS, fun q hq => by cases hq; exact hk⟩
    by_cases h10 : k = 10
    · subst h10
      obtain ⟨c, iS, hk⟩ := u_known (C := RX10) (T := TX10) (N := 12) (n := 12) h z_in10 (h (.instantiable RX10 12) (z_w_in (k := 153) (by decide +kernel)))
      exact ⟨c, iS, fun q hq => by cases hq; exact hk⟩
    by_cases h11 : k = 11
    · subst h11
      obtain ⟨c, iS, hk⟩ := u_known (C := RX11) (T := TX11) (N := 12) (n := 12) h z_in11 (h (.instantiable RX11 12) (z_w_in (k := 23) (by decide +kernel)))
      exact ⟨c, iS, fun q hq => by cases hq; exact hk⟩
    by_cases h12 : k = 12
    · subst h12
      obtain ⟨c, iS, hk⟩ := u_known (C := RX12) (T := TX12) (N := 89) (n := 89) h z_in12 (h (.instantiable RX12 89) (z_w_in (k := 1608) (by decide +kernel)))
      exact ⟨c, iS, fun q hq => by cases hq; exact hk⟩
    · refine ⟨0, fun _ => 0, fun q hq => ?_⟩
      have h13 : k < 13 := (List.getElem?_eq_some_iff.mp hq).1
      omega
  exact ⟨fun k => (H k).choose, fun k => (H k).choose_spec.choose, fun k q hq => (H k).choose_spec.choose_spec q hq⟩
/-- an array class -/
theorem zk_arr {args : Array Value} {s : State} {ty : FieldType} (h : (Cond.arrayClass ty).before args s = true) : ∃ c : ClassId, ArrOfT s c ty ∧ s.vm.findClass ("[" ++ ty.toString) = some c := by
  obtain ⟨c, k, comp, h1, h2, h3⟩ := Cond.arrayClass_spec h
  exact ⟨c, fun n z => ⟨fun k h => (by cases h), k, h2, comp, h3⟩, h1⟩
section ZK
variable {p : Program} {l : Launch} {e : Env} {R : Room} {s : State} {m : MethodId} {args : Array Value} {below : List Frame} {meth : Method} {c : Code} {H : Heap} {locs : List Loc} {cells slots : Nat} {Q : State → Prop} {cc : ByteArray} {pc np : Nat} {ls : Array Slot} {rest : List Value} {dC : Nat → ClassId} {dI : Nat → Nat → Nat} {A : Nat → Prop} {tys : List (ClassId × FieldType)} {ws : va_W} {cJ : ClassId}
theorem zk_newJ (hx : p.tables.exec = Jvm.exec) (hb : c.code = cc) (harr : (Cond.arrayClass .long).before args s = true) (hK : va_K (dC, dI) vwCl tys s) {kI : Nat} (hI : tys[kI]? = some (cJ, .long)) (hP : va_P (dC, dI) vwCl ws H) (hD : va_D A ws) (hS : va_S A s.heap H locs) (hA : ∀ q, s.heap.size ≤ q → A q) {n : Int32} {N : Nat} (hn : ¬ n < 0) (hN : n.toNatClampNeg = N) (hbytes : N * 8 ≤ 536870912) (hcells : cells + 1 ≤ R.cells) (hslots : slots + N ≤ R.slots) (hdg : decode cc pc = .ok (.newarray .long, 2))
    (kk : ∀ (q : Nat) (H1 : Heap), va_P (dC, dI) vwCl (ws ++ [(q, .inl (cJ, N, .inr (.inl fun _ => 0)))]) H1 → va_D A (ws ++ [(q, .inl (cJ, N, .inr (.inl fun _ => 0)))]) → va_S A s.heap H1 locs → W p l e R s m args below meth c H1 locs (cells + 1) (slots + N) Q (F0 m (pc + 2) ls (.ref q :: rest))) : W p l e R s m args below meth c H locs cells slots Q (F0 m pc ls (.int n :: rest)) := by
  refine va_newa (atype := .long) (ty := .long) (a0 := (N, .inr (.inl fun _ => 0))) hx hb harr rfl hK hP hD hS hA (fun cA => rfl) hn hN hbytes hcells hslots hdg (fun q cA H1 hK1 hP1 hD1 hS1 => ?_)
  have h1 : s.vm.findClass ("[" ++ FieldType.long.toString) = some cA := (hK1.2 tys.length (cA, .long) (by simp)).2
  have h2 : s.vm.findClass ("[" ++ FieldType.long.toString) = some cJ := (hK.2 kI _ hI).2
  have e : cA = cJ := Option.some.inj (h1.symm.trans h2)
  subst e
  exact kk q H1 hP1 hD1 hS1
end ZK
/-- the model's fields, as a new object has them -/
theorem zk_dv12 : ∀ j, j < 89 → defaultValue (tyX12 j) = vp_V [.int 0, .int 0, .int 0, .int 0, .int 0, .int 0, .null, .null, .null, .int 0, .int 0, .int 0, .int 0, .int 0, .int 0, .int 0, .int 0, .int 0, .int 0, .null, .null, .null, .null, .null, .null, .null, .null, .null, .null, .null, .null, .null, .null, .null, .null, .null, .int 0, .null, .null, .null, .null, .null, .null, .null, .null, .int 0, .null, .null, .null, .null, .null, .null, .null, .null, .null, .null, .null, .int 0, .null, .null, .null, .null, .null, .null, .null, .null, .null, .null, .int 0, .null, .null, .null, .int 0, .null, .null, .null, .null, .null, .null, .int 0, .null, .null, .null, .null, .null, .null, .null, .null, .null] j := by
  intro j hj
  match j, hj with
  | 0, _ => rfl
  | 1, _ => rfl
  | 2, _ => rfl
  | 3, _ => rfl
  | 4, _ => rfl
  | 5, _ => rfl
  | 6, _ => rfl
  | 7, _ => rfl
  | 8, _ => rfl
  | 9, _ => rfl
  | 10, _ => rfl
  | 11, _ => rfl
  | 12, _ => rfl
  | 13, _ => rfl
  | 14, _ => rfl
  | 15, _ => rfl
  | 16, _ => rfl
  | 17, _ => rfl
  | 18, _ => rfl
  | 19, _ => rfl
  | 20, _ => rfl
  | 21, _ => rfl
  | 22, _ => rfl
  | 23, _ => rfl
  | 24, _ => rfl
  | 25, _ => rfl
  | 26, _ => rfl
  | 27, _ => rfl
  | 28, _ => rfl
  | 29, _ => rfl
  | 30, _ => rfl
  | 31, _ => rfl
  | 32, _ => rfl
  | 33, _ => rfl
  | 34, _ => rfl
  | 35, _ => rfl
  | 36, _ => rfl
  | 37, _ => rfl
  | 38, _ => rfl
  | 39, _ => rfl
  | 40, _ => rfl
  | 41, _ => rfl
  | 42, _ => rfl
  | 43, _ => rfl
  | 44, _ => rfl
  | 45, _ => rfl
  | 46, _ => rfl
  | 47, _ => rfl
  | 48, _ => rfl
  | 49, _ => rfl
  | 50, _ => rfl
  | 51, _ => rfl
  | 52, _ => rfl
  | 53, _ => rfl
  | 54, _ => rfl
  | 55, _ => rfl
  | 56, _ => rfl
  | 57, _ => rfl
  | 58, _ => rfl
  | 59, _ => rfl
  | 60, _ => rfl
  | 61, _ => rfl
  | 62, _ => rfl
  | 63, _ => rfl
  | 64, _ => rfl
  | 65, _ => rfl
  | 66, _ => rfl
  | 67, _ => rfl
  | 68, _ => rfl
  | 69, _ => rfl
  | 70, _ => rfl
  | 71, _ => rfl
  | 72, _ => rfl
  | 73, _ => rfl
  | 74, _ => rfl
  | 75, _ => rfl
  | 76, _ => rfl
  | 77, _ => rfl
  | 78, _ => rfl
  | 79, _ => rfl
  | 80, _ => rfl
  | 81, _ => rfl
  | 82, _ => rfl
  | 83, _ => rfl
  | 84, _ => rfl
  | 85, _ => rfl
  | 86, _ => rfl
  | 87, _ => rfl
  | 88, _ => rfl
  | n + 89, h => exact absurd h (by omega)
/-- the world that the law's loop begins with: its cells by the numbers of the tables -/
def zww (cI cZ cJ : ClassId) (h0 h1 ho : Nat) (u v : Nat → Nat) : va_W := zw11 cI cZ h0 u ++ zw12 cI cZ h1 v ++ [(ho, .inl (cJ, 1, .inr (.inl fun _ => 0)))]
def zqs (h0 h1 ho : Nat) (u v : Nat → Nat) : List Nat := [h0, u 0, u 1, u 2, u 3, u 4, u 5, u 6, u 7, u 8000, u 8, u 9, u 10, h1, u 1003, u 1004, u 3000, u 3001, u 3002, u 3003, u 4000, u 4001, u 4002, u 4003, u 4004, u 4005, u 4006, u 4007, u 4008, u 4009, u 5001, u 5002, u 5003, u 5004, u 5005, u 5006, u 5007, u 5008, u 5009, u 5010, u 5011, u 6001, u 6002, u 6003, u 6004, u 6005, u 6006, u 6007, u 6008, u 6009, u 6010, u 7000, u 7001, u 7002, u 7003, u 8001, u 8002, u 8003, u 8004, u 8100, u 8101, u 8102, u 8103, u 9001, u 9002, u 9003, u 9005, u 9006, u 9007, u 9008, u 9009, u 9010, u 10001, u 10002, u 10003, u 10004, u 10005, u 11000, u 11001, u 11002, u 11003, v 6, v 7, v 8, v 19, v 20, v 21, v 22, v 23, v 24, v 25, v 26, v 27, v 28, v 29, v 30, v 31, v 32, v 33, v 34, v 35, v 37, v 38, v 39, v 40, v 41, v 42, v 43, v 44, v 46, v 47, v 48, v 49, v 50, v 51, v 52, v 53, v 54, v 55, v 56, v 58, v 59, v 60, v 61, v 62, v 63, v 64, v 65, v 66, v 67, v 69, v 70, v 71, v 73, v 74, v 75, v 76, v 77, v 78, v 80, v 81, v 82, v 83, v 84, v 85, v 86, v 87, v 88, ho]
def zq0 (b h0 h1 ho : Nat) (u v : Nat → Nat) (j : Nat) : Nat := if j = 1000 then b else (zqs h0 h1 ho u v).getD j 0
def zperm : List Nat := [0, 1, 4, 5, 10, 21, 33, 44, 49, 50, 59, 69, 75, 80, 2, 3, 6, 7, 8, 9, 11, 12, 13, 14, 15, 16, 17, 18, 19, 20, 22, 23, 24, 25, 26, 27, 28, 29, 30, 31, 32, 34, 35, 36, 37, 38, 39, 40, 41, 42, 43, 45, 46, 47, 48, 55, 56, 57, 58, 51, 52, 53, 54, 60, 61, 62, 63, 64, 65, 66, 67, 68, 70, 71, 72, 73, 74, 76, 77, 78, 79, 81, 82, 83, 84, 85, 86, 87, 88, 89, 90, 91, 92, 93, 94, 95, 96, 97, 98, 99, 100, 101, 102, 103, 104, 105, 106, 107, 108, 109, 110, 111, 112, 113, 114, 115, 116, 117, 118, 119, 120, 121, 122, 123, 124, 125, 126, 127, 128, 129, 130, 131, 132, 133, 134, 135, 136, 137, 138, 139, 140, 141, 142, 143, 144, 145, 146, 147, 148]
theorem zperm_inj : ∀ i, i < 149 → ∀ j, j < 149 → zperm.getD i 0 = zperm.getD j 0 → i = j := by decide +kernel
theorem zlay_len : z_lay.length = 149 := by decide +kernel
theorem zk_J0 : (fun _ => (0 : Int64)) = fun i : Nat => ((fun _ => (0 : Int32)) i).toInt64 := by
  funext i
  show (0 : Int64) = (0 : Int32).toInt64
  decide
section ZW3
variable {cI cZ cJ : ClassId} {b h0 h1 ho : Nat} {u v : Nat → Nat} {X : Nat → Int32}
set_option maxRecDepth 100000 in
theorem zww_0 : (zww cI cZ cJ h0 h1 ho u v)[zperm.getD 0 0]? = some (zq0 b h0 h1 ho u v 0, z_el cI cZ cJ (zq0 b h0 h1 ho u v) (z0 X 0) (z_lay.getD 0 (.inl (0, 0)))) := rfl
set_option maxRecDepth 100000 in
theorem zww_1 : (zww cI cZ cJ h0 h1 ho u v)[zperm.getD 1 0]? = some (zq0 b h0 h1 ho u v 1, z_el cI cZ cJ (zq0 b h0 h1 ho u v) (z0 X 1) (z_lay.getD 1 (.inl (0, 0)))) := rfl
set_option maxRecDepth 100000 in
theorem zww_2 : (zww cI cZ cJ h0 h1 ho u v)[zperm.getD 2 0]? = some (zq0 b h0 h1 ho u v 2, z_el cI cZ cJ (zq0 b h0 h1 ho u v) (z0 X 2) (z_lay.getD 2 (.inl (0, 0)))) := rfl
set_option maxRecDepth 100000 in
theorem zww_3 : (zww cI cZ cJ h0 h1 ho u v)[zperm.getD 3 0]? = some (zq0 b h0 h1 ho u v 3, z_el cI cZ cJ (zq0 b h0 h1 ho u v) (z0 X 3) (z_lay.getD 3 (.inl (0, 0)))) := rfl
set_option maxRecDepth 100000 in
theorem zww_4 : (zww cI cZ cJ h0 h1 ho u v)[zperm.getD 4 0]? = some (zq0 b h0 h1 ho u v 4, z_el cI cZ cJ (zq0 b h0 h1 ho u v) (z0 X 4) (z_lay.getD 4 (.inl (0, 0)))) := rfl
set_option maxRecDepth 100000 in
theorem zww_5 : (zww cI cZ cJ h0 h1 ho u v)[zperm.getD 5 0]? = some (zq0 b h0 h1 ho u v 5, z_el cI cZ cJ (zq0 b h0 h1 ho u v) (z0 X 5) (z_lay.getD 5 (.inl (0, 0)))) := rfl
set_option maxRecDepth 100000 in
theorem zww_6 : (zww cI cZ cJ h0 h1 ho u v)[zperm.getD 6 0]? = some (zq0 b h0 h1 ho u v 6, z_el cI cZ cJ (zq0 b h0 h1 ho u v) (z0 X 6) (z_lay.getD 6 (.inl (0, 0)))) := rfl
set_option maxRecDepth 100000 in
theorem zww_7 : (zww cI cZ cJ h0 h1 ho u v)[zperm.getD 7 0]? = some (zq0 b h0 h1 ho u v 7, z_el cI cZ cJ (zq0 b h0 h1 ho u v) (z0 X 7) (z_lay.getD 7 (.inl (0, 0)))) := rfl
set_option maxRecDepth 100000 in
theorem zww_8 : (zww cI cZ cJ h0 h1 ho u v)[zperm.getD 8 0]? = some (zq0 b h0 h1 ho u v 8, z_el cI cZ cJ (zq0 b h0 h1 ho u v) (z0 X 8) (z_lay.getD 8 (.inl (0, 0)))) := rfl
set_option maxRecDepth 100000 in
theorem zww_9 : (zww cI cZ cJ h0 h1 ho u v)[zperm.getD 9 0]? = some (zq0 b h0 h1 ho u v 9, z_el cI cZ cJ (zq0 b h0 h1 ho u v) (z0 X 9) (z_lay.getD 9 (.inl (0, 0)))) := rfl
set_option maxRecDepth 100000 in
theorem zww_10 : (zww cI cZ cJ h0 h1 ho u v)[zperm.getD 10 0]? = some (zq0 b h0 h1 ho u v 10, z_el cI cZ cJ (zq0 b h0 h1 ho u v) (z0 X 10) (z_lay.getD 10 (.inl (0, 0)))) := rfl
set_option maxRecDepth 100000 in
theorem zww_11 : (zww cI cZ cJ h0 h1 ho u v)[zperm.getD 11 0]? = some (zq0 b h0 h1 ho u v 11, z_el cI cZ cJ (zq0 b h0 h1 ho u v) (z0 X 11) (z_lay.getD 11 (.inl (0, 0)))) := rfl
set_option maxRecDepth 100000 in
theorem zww_12 : (zww cI cZ cJ h0 h1 ho u v)[zperm.getD 12 0]? = some (zq0 b h0 h1 ho u v 12, z_el cI cZ cJ (zq0 b h0 h1 ho u v) (z0 X 12) (z_lay.getD 12 (.inl (0, 0)))) := rfl
set_option maxRecDepth 100000 in
theorem zww_13 : (zww cI cZ cJ h0 h1 ho u v)[zperm.getD 13 0]? = some (zq0 b h0 h1 ho u v 13, z_el cI cZ cJ (zq0 b h0 h1 ho u v) (z0 X 13) (z_lay.getD 13 (.inl (0, 0)))) := rfl
set_option maxRecDepth 100000 in
theorem zww_14 : (zww cI cZ cJ h0 h1 ho u v)[zperm.getD 14 0]? = some (zq0 b h0 h1 ho u v 14, z_el cI cZ cJ (zq0 b h0 h1 ho u v) (z0 X 14) (z_lay.getD 14 (.inl (0, 0)))) := rfl
set_option maxRecDepth 100000 in
theorem zww_15 : (zww cI cZ cJ h0 h1 ho u v)[zperm.getD 15 0]? = some (zq0 b h0 h1 ho u v 15, z_el cI cZ cJ (zq0 b h0 h1 ho u v) (z0 X 15) (z_lay.getD 15 (.inl (0, 0)))) := rfl
set_option maxRecDepth 100000 in
theorem zww_16 : (zww cI cZ cJ h0 h1 ho u v)[zperm.getD 16 0]? = some (zq0 b h0 h1 ho u v 16, z_el cI cZ cJ (zq0 b h0 h1 ho u v) (z0 X 16) (z_lay.getD 16 (.inl (0, 0)))) := rfl
set_option maxRecDepth 100000 in
theorem zww_17 : (zww cI cZ cJ h0 h1 ho u v)[zperm.getD 17 0]? = some (zq0 b h0 h1 ho u v 17, z_el cI cZ cJ (zq0 b h0 h1 ho u v) (z0 X 17) (z_lay.getD 17 (.inl (0, 0)))) := rfl
set_option maxRecDepth 100000 in
theorem zww_18 : (zww cI cZ cJ h0 h1 ho u v)[zperm.getD 18 0]? = some (zq0 b h0 h1 ho u v 18, z_el cI cZ cJ (zq0 b h0 h1 ho u v) (z0 X 18) (z_lay.getD 18 (.inl (0, 0)))) := rfl
set_option maxRecDepth 100000 in
theorem zww_19 : (zww cI cZ cJ h0 h1 ho u v)[zperm.getD 19 0]? = some (zq0 b h0 h1 ho u v 19, z_el cI cZ cJ (zq0 b h0 h1 ho u v) (z0 X 19) (z_lay.getD 19 (.inl (0, 0)))) := rfl
set_option maxRecDepth 100000 in
theorem zww_20 : (zww cI cZ cJ h0 h1 ho u v)[zperm.getD 20 0]? = some (zq0 b h0 h1 ho u v 20, z_el cI cZ cJ (zq0 b h0 h1 ho u v) (z0 X 20) (z_lay.getD 20 (.inl (0, 0)))) := rfl
set_option maxRecDepth 100000 in
theorem zww_21 : (zww cI cZ cJ h0 h1 ho u v)[zperm.getD 21 0]? = some (zq0 b h0 h1 ho u v 21, z_el cI cZ cJ (zq0 b h0 h1 ho u v) (z0 X 21) (z_lay.getD 21 (.inl (0, 0)))) := rfl
set_option maxRecDepth 100000 in
theorem zww_22 : (zww cI cZ cJ h0 h1 ho u v)[zperm.getD 22 0]? = some (zq0 b h0 h1 ho u v 22, z_el cI cZ cJ (zq0 b h0 h1 ho u v) (z0 X 22) (z_lay.getD 22 (.inl (0, 0)))) := rfl
set_option maxRecDepth 100000 in
theorem zww_23 : (zww cI cZ cJ h0 h1 ho u v)[zperm.getD 23 0]? = some (zq0 b h0 h1 ho u v 23, z_el cI cZ cJ (zq0 b h0 h1 ho u v) (z0 X 23) (z_lay.getD 23 (.inl (0, 0)))) := rfl
set_option maxRecDepth 100000 in
theorem zww_24 : (zww cI cZ cJ h0 h1 ho u v)[zperm.getD 24 0]? = some (zq0 b h0 h1 ho u v 24, z_el cI cZ cJ (zq0 b h0 h1 ho u v) (z0 X 24) (z_lay.getD 24 (.inl (0, 0)))) := rfl
set_option maxRecDepth 100000 in
theorem zww_25 : (zww cI cZ cJ h0 h1 ho u v)[zperm.getD 25 0]? = some (zq0 b h0 h1 ho u v 25, z_el cI cZ cJ (zq0 b h0 h1 ho u v) (z0 X 25) (z_lay.getD 25 (.inl (0, 0)))) := rfl
set_option maxRecDepth 100000 in
theorem zww_26 : (zww cI cZ cJ h0 h1 ho u v)[zperm.getD 26 0]? = some (zq0 b h0 h1 ho u v 26, z_el cI cZ cJ (zq0 b h0 h1 ho u v) (z0 X 26) (z_lay.getD 26 (.inl (0, 0)))) := rfl
set_option maxRecDepth 100000 in
theorem zww_27 : (zww cI cZ cJ h0 h1 ho u v)[zperm.getD 27 0]? = some (zq0 b h0 h1 ho u v 27, z_el cI cZ cJ (zq0 b h0 h1 ho u v) (z0 X 27) (z_lay.getD 27 (.inl (0, 0)))) := rfl
set_option maxRecDepth 100000 in
theorem zww_28 : (zww cI cZ cJ h0 h1 ho u v)[zperm.getD 28 0]? = some (zq0 b h0 h1 ho u v 28, z_el cI cZ cJ (zq0 b h0 h1 ho u v) (z0 X 28) (z_lay.getD 28 (.inl (0, 0)))) := rfl
set_option maxRecDepth 100000 in
theorem zww_29 : (zww cI cZ cJ h0 h1 ho u v)[zperm.getD 29 0]? = some (zq0 b h0 h1 ho u v 29, z_el cI cZ cJ (zq0 b h0 h1 ho u v) (z0 X 29) (z_lay.getD 29 (.inl (0, 0)))) := rfl
set_option maxRecDepth 100000 in
theorem zww_30 : (zww cI cZ cJ h0 h1 ho u v)[zperm.getD 30 0]? = some (zq0 b h0 h1 ho u v 30, z_el cI cZ cJ (zq0 b h0 h1 ho u v) (z0 X 30) (z_lay.getD 30 (.inl (0, 0)))) := rfl
set_option maxRecDepth 100000 in
theorem zww_31 : (zww cI cZ cJ h0 h1 ho u v)[zperm.getD 31 0]? = some (zq0 b h0 h1 ho u v 31, z_el cI cZ cJ (zq0 b h0 h1 ho u v) (z0 X 31) (z_lay.getD 31 (.inl (0, 0)))) := rfl
set_option maxRecDepth 100000 in
theorem zww_32 : (zww cI cZ cJ h0 h1 ho u v)[zperm.getD 32 0]? = some (zq0 b h0 h1 ho u v 32, z_el cI cZ cJ (zq0 b h0 h1 ho u v) (z0 X 32) (z_lay.getD 32 (.inl (0, 0)))) := rfl
set_option maxRecDepth 100000 in
theorem zww_33 : (zww cI cZ cJ h0 h1 ho u v)[zperm.getD 33 0]? = some (zq0 b h0 h1 ho u v 33, z_el cI cZ cJ (zq0 b h0 h1 ho u v) (z0 X 33) (z_lay.getD 33 (.inl (0, 0)))) := rfl
set_option maxRecDepth 100000 in
theorem zww_34 : (zww cI cZ cJ h0 h1 ho u v)[zperm.getD 34 0]? = some (zq0 b h0 h1 ho u v 34, z_el cI cZ cJ (zq0 b h0 h1 ho u v) (z0 X 34) (z_lay.getD 34 (.inl (0, 0)))) := rfl
set_option maxRecDepth 100000 in
theorem zww_35 : (zww cI cZ cJ h0 h1 ho u v)[zperm.getD 35 0]? = some (zq0 b h0 h1 ho u v 35, z_el cI cZ cJ (zq0 b h0 h1 ho u v) (z0 X 35) (z_lay.getD 35 (.inl (0, 0)))) := rfl
set_option maxRecDepth 100000 in
theorem zww_36 : (zww cI cZ cJ h0 h1 ho u v)[zperm.getD 36 0]? = some (zq0 b h0 h1 ho u v 36, z_el cI cZ cJ (zq0 b h0 h1 ho u v) (z0 X 36) (z_lay.getD 36 (.inl (0, 0)))) := rfl
set_option maxRecDepth 100000 in
theorem zww_37 : (zww cI cZ cJ h0 h1 ho u v)[zperm.getD 37 0]? = some (zq0 b h0 h1 ho u v 37, z_el cI cZ cJ (zq0 b h0 h1 ho u v) (z0 X 37) (z_lay.getD 37 (.inl (0, 0)))) := rfl
set_option maxRecDepth 100000 in
theorem zww_38 : (zww cI cZ cJ h0 h1 ho u v)[zperm.getD 38 0]? = some (zq0 b h0 h1 ho u v 38, z_el cI cZ cJ (zq0 b h0 h1 ho u v) (z0 X 38) (z_lay.getD 38 (.inl (0, 0)))) := rfl
set_option maxRecDepth 100000 in
theorem zww_39 : (zww cI cZ cJ h0 h1 ho u v)[zperm.getD 39 0]? = some (zq0 b h0 h1 ho u v 39, z_el cI cZ cJ (zq0 b h0 h1 ho u v) (z0 X 39) (z_lay.getD 39 (.inl (0, 0)))) := rfl
set_option maxRecDepth 100000 in
theorem zww_40 : (zww cI cZ cJ h0 h1 ho u v)[zperm.getD 40 0]? = some (zq0 b h0 h1 ho u v 40, z_el cI cZ cJ (zq0 b h0 h1 ho u v) (z0 X 40) (z_lay.getD 40 (.inl (0, 0)))) := rfl
set_option maxRecDepth 100000 in
theorem zww_41 : (zww cI cZ cJ h0 h1 ho u v)[zperm.getD 41 0]? = some (zq0 b h0 h1 ho u v 41, z_el cI cZ cJ (zq0 b h0 h1 ho u v) (z0 X 41) (z_lay.getD 41 (.inl (0, 0)))) := rfl
set_option maxRecDepth 100000 in
theorem zww_42 : (zww cI cZ cJ h0 h1 ho u v)[zperm.getD 42 0]? = some (zq0 b h0 h1 ho u v 42, z_el cI cZ cJ (zq0 b h0 h1 ho u v) (z0 X 42) (z_lay.getD 42 (.inl (0, 0)))) := rfl
set_option maxRecDepth 100000 in
theorem zww_43 : (zww cI cZ cJ h0 h1 ho u v)[zperm.getD 43 0]? = some (zq0 b h0 h1 ho u v 43, z_el cI cZ cJ (zq0 b h0 h1 ho u v) (z0 X 43) (z_lay.getD 43 (.inl (0, 0)))) := rfl
set_option maxRecDepth 100000 in
theorem zww_44 : (zww cI cZ cJ h0 h1 ho u v)[zperm.getD 44 0]? = some (zq0 b h0 h1 ho u v 44, z_el cI cZ cJ (zq0 b h0 h1 ho u v) (z0 X 44) (z_lay.getD 44 (.inl (0, 0)))) := rfl
set_option maxRecDepth 100000 in
theorem zww_45 : (zww cI cZ cJ h0 h1 ho u v)[zperm.getD 45 0]? = some (zq0 b h0 h1 ho u v 45, z_el cI cZ cJ (zq0 b h0 h1 ho u v) (z0 X 45) (z_lay.getD 45 (.inl (0, 0)))) := rfl
set_option maxRecDepth 100000 in
theorem zww_46 : (zww cI cZ cJ h0 h1 ho u v)[zperm.getD 46 0]? = some (zq0 b h0 h1 ho u v 46, z_el cI cZ cJ (zq0 b h0 h1 ho u v) (z0 X 46) (z_lay.getD 46 (.inl (0, 0)))) := rfl
set_option maxRecDepth 100000 in
theorem zww_47 : (zww cI cZ cJ h0 h1 ho u v)[zperm.getD 47 0]? = some (zq0 b h0 h1 ho u v 47, z_el cI cZ cJ (zq0 b h0 h1 ho u v) (z0 X 47) (z_lay.getD 47 (.inl (0, 0)))) := rfl
set_option maxRecDepth 100000 in
theorem zww_48 : (zww cI cZ cJ h0 h1 ho u v)[zperm.getD 48 0]? = some (zq0 b h0 h1 ho u v 48, z_el cI cZ cJ (zq0 b h0 h1 ho u v) (z0 X 48) (z_lay.getD 48 (.inl (0, 0)))) := rfl
set_option maxRecDepth 100000 in
theorem zww_49 : (zww cI cZ cJ h0 h1 ho u v)[zperm.getD 49 0]? = some (zq0 b h0 h1 ho u v 49, z_el cI cZ cJ (zq0 b h0 h1 ho u v) (z0 X 49) (z_lay.getD 49 (.inl (0, 0)))) := rfl
set_option maxRecDepth 100000 in
theorem zww_50 : (zww cI cZ cJ h0 h1 ho u v)[zperm.getD 50 0]? = some (zq0 b h0 h1 ho u v 50, z_el cI cZ cJ (zq0 b h0 h1 ho u v) (z0 X 50) (z_lay.getD 50 (.inl (0, 0)))) := rfl
set_option maxRecDepth 100000 in
theorem zww_51 : (zww cI cZ cJ h0 h1 ho u v)[zperm.getD 51 0]? = some (zq0 b h0 h1 ho u v 51, z_el cI cZ cJ (zq0 b h0 h1 ho u v) (z0 X 51) (z_lay.getD 51 (.inl (0, 0)))) := rfl
set_option maxRecDepth 100000 in
theorem zww_52 : (zww cI cZ cJ h0 h1 ho u v)[zperm.getD 52 0]? = some (zq0 b h0 h1 ho u v 52, z_el cI cZ cJ (zq0 b h0 h1 ho u v) (z0 X 52) (z_lay.getD 52 (.inl (0, 0)))) := rfl
set_option maxRecDepth 100000 in
theorem zww_53 : (zww cI cZ cJ h0 h1 ho u v)[zperm.getD 53 0]? = some (zq0 b h0 h1 ho u v 53, z_el cI cZ cJ (zq0 b h0 h1 ho u v) (z0 X 53) (z_lay.getD 53 (.inl (0, 0)))) := rfl
set_option maxRecDepth 100000 in
theorem zww_54 : (zww cI cZ cJ h0 h1 ho u v)[zperm.getD 54 0]? = some (zq0 b h0 h1 ho u v 54, z_el cI cZ cJ (zq0 b h0 h1 ho u v) (z0 X 54) (z_lay.getD 54 (.inl (0, 0)))) := rfl
set_option maxRecDepth 100000 in
theorem zww_55 : (zww cI cZ cJ h0 h1 ho u v)[zperm.getD 55 0]? = some (zq0 b h0 h1 ho u v 55, z_el cI cZ cJ (zq0 b h0 h1 ho u v) (z0 X 55) (z_lay.getD 55 (.inl (0, 0)))) := rfl
set_option maxRecDepth 100000 in
theorem zww_56 : (zww cI cZ cJ h0 h1 ho u v)[zperm.getD 56 0]? = some (zq0 b h0 h1 ho u v 56, z_el cI cZ cJ (zq0 b h0 h1 ho u v) (z0 X 56) (z_lay.getD 56 (.inl (0, 0)))) := rfl
set_option maxRecDepth 100000 in
theorem zww_57 : (zww cI cZ cJ h0 h1 ho u v)[zperm.getD 57 0]? = some (zq0 b h0 h1 ho u v 57, z_el cI cZ cJ (zq0 b h0 h1 ho u v) (z0 X 57) (z_lay.getD 57 (.inl (0, 0)))) := rfl
set_option maxRecDepth 100000 in
theorem zww_58 : (zww cI cZ cJ h0 h1 ho u v)[zperm.getD 58 0]? = some (zq0 b h0 h1 ho u v 58, z_el cI cZ cJ (zq0 b h0 h1 ho u v) (z0 X 58) (z_lay.getD 58 (.inl (0, 0)))) := rfl
set_option maxRecDepth 100000 in
theorem zww_59 : (zww cI cZ cJ h0 h1 ho u v)[zperm.getD 59 0]? = some (zq0 b h0 h1 ho u v 59, z_el cI cZ cJ (zq0 b h0 h1 ho u v) (z0 X 59) (z_lay.getD 59 (.inl (0, 0)))) := rfl
set_option maxRecDepth 100000 in
theorem zww_60 : (zww cI cZ cJ h0 h1 ho u v)[zperm.getD 60 0]? = some (zq0 b h0 h1 ho u v 60, z_el cI cZ cJ (zq0 b h0 h1 ho u v) (z0 X 60) (z_lay.getD 60 (.inl (0, 0)))) := rfl
set_option maxRecDepth 100000 in
theorem zww_61 : (zww cI cZ cJ h0 h1 ho u v)[zperm.getD 61 0]? = some (zq0 b h0 h1 ho u v 61, z_el cI cZ cJ (zq0 b h0 h1 ho u v) (z0 X 61) (z_lay.getD 61 (.inl (0, 0)))) := rfl
set_option maxRecDepth 100000 in
theorem zww_62 : (zww cI cZ cJ h0 h1 ho u v)[zperm.getD 62 0]? = some (zq0 b h0 h1 ho u v 62, z_el cI cZ cJ (zq0 b h0 h1 ho u v) (z0 X 62) (z_lay.getD 62 (.inl (0, 0)))) := rfl
set_option maxRecDepth 100000 in
theorem zww_63 : (zww cI cZ cJ h0 h1 ho u v)[zperm.getD 63 0]? = some (zq0 b h0 h1 ho u v 63, z_el cI cZ cJ (zq0 b h0 h1 ho u v) (z0 X 63) (z_lay.getD 63 (.inl (0, 0)))) := rfl
set_option maxRecDepth 100000 in
theorem zww_64 : (zww cI cZ cJ h0 h1 ho u v)[zperm.getD 64 0]? = some (zq0 b h0 h1 ho u v 64, z_el cI cZ cJ (zq0 b h0 h1 ho u v) (z0 X 64) (z_lay.getD 64 (.inl (0, 0)))) := rfl
set_option maxRecDepth 100000 in
theorem zww_65 : (zww cI cZ cJ h0 h1 ho u v)[zperm.getD 65 0]? = some (zq0 b h0 h1 ho u v 65, z_el cI cZ cJ (zq0 b h0 h1 ho u v) (z0 X 65) (z_lay.getD 65 (.inl (0, 0)))) := rfl
set_option maxRecDepth 100000 in
theorem zww_66 : (zww cI cZ cJ h0 h1 ho u v)[zperm.getD 66 0]? = some (zq0 b h0 h1 ho u v 66, z_el cI cZ cJ (zq0 b h0 h1 ho u v) (z0 X 66) (z_lay.getD 66 (.inl (0, 0)))) := rfl
set_option maxRecDepth 100000 in
theorem zww_67 : (zww cI cZ cJ h0 h1 ho u v)[zperm.getD 67 0]? = some (zq0 b h0 h1 ho u v 67, z_el cI cZ cJ (zq0 b h0 h1 ho u v) (z0 X 67) (z_lay.getD 67 (.inl (0, 0)))) := rfl
set_option maxRecDepth 100000 in
theorem zww_68 : (zww cI cZ cJ h0 h1 ho u v)[zperm.getD 68 0]? = some (zq0 b h0 h1 ho u v 68, z_el cI cZ cJ (zq0 b h0 h1 ho u v) (z0 X 68) (z_lay.getD 68 (.inl (0, 0)))) := rfl
set_option maxRecDepth 100000 in
theorem zww_69 : (zww cI cZ cJ h0 h1 ho u v)[zperm.getD 69 0]? = some (zq0 b h0 h1 ho u v 69, z_el cI cZ cJ (zq0 b h0 h1 ho u v) (z0 X 69) (z_lay.getD 69 (.inl (0, 0)))) := rfl
set_option maxRecDepth 100000 in
theorem zww_70 : (zww cI cZ cJ h0 h1 ho u v)[zperm.getD 70 0]? = some (zq0 b h0 h1 ho u v 70, z_el cI cZ cJ (zq0 b h0 h1 ho u v) (z0 X 70) (z_lay.getD 70 (.inl (0, 0)))) := rfl
set_option maxRecDepth 100000 in
theorem zww_71 : (zww cI cZ cJ h0 h1 ho u v)[zperm.getD 71 0]? = some (zq0 b h0 h1 ho u v 71, z_el cI cZ cJ (zq0 b h0 h1 ho u v) (z0 X 71) (z_lay.getD 71 (.inl (0, 0)))) := rfl
set_option maxRecDepth 100000 in
theorem zww_72 : (zww cI cZ cJ h0 h1 ho u v)[zperm.getD 72 0]? = some (zq0 b h0 h1 ho u v 72, z_el cI cZ cJ (zq0 b h0 h1 ho u v) (z0 X 72) (z_lay.getD 72 (.inl (0, 0)))) := rfl
set_option maxRecDepth 100000 in
theorem zww_73 : (zww cI cZ cJ h0 h1 ho u v)[zperm.getD 73 0]? = some (zq0 b h0 h1 ho u v 73, z_el cI cZ cJ (zq0 b h0 h1 ho u v) (z0 X 73) (z_lay.getD 73 (.inl (0, 0)))) := rfl
set_option maxRecDepth 100000 in
theorem zww_74 : (zww cI cZ cJ h0 h1 ho u v)[zperm.getD 74 0]? = some (zq0 b h0 h1 ho u v 74, z_el cI cZ cJ (zq0 b h0 h1 ho u v) (z0 X 74) (z_lay.getD 74 (.inl (0, 0)))) := rfl
set_option maxRecDepth 100000 in
theorem zww_75 : (zww cI cZ cJ h0 h1 ho u v)[zperm.getD 75 0]? = some (zq0 b h0 h1 ho u v 75, z_el cI cZ cJ (zq0 b h0 h1 ho u v) (z0 X 75) (z_lay.getD 75 (.inl (0, 0)))) := rfl
set_option maxRecDepth 100000 in
theorem zww_76 : (zww cI cZ cJ h0 h1 ho u v)[zperm.getD 76 0]? = some (zq0 b h0 h1 ho u v 76, z_el cI cZ cJ (zq0 b h0 h1 ho u v) (z0 X 76) (z_lay.getD 76 (.inl (0, 0)))) := rfl
set_option maxRecDepth 100000 in
theorem zww_77 : (zww cI cZ cJ h0 h1 ho u v)[zperm.getD 77 0]? = some (zq0 b h0 h1 ho u v 77, z_el cI cZ cJ (zq0 b h0 h1 ho u v) (z0 X 77) (z_lay.getD 77 (.inl (0, 0)))) := rfl
set_option maxRecDepth 100000 in
theorem zww_78 : (zww cI cZ cJ h0 h1 ho u v)[zperm.getD 78 0]? = some (zq0 b h0 h1 ho u v 78, z_el cI cZ cJ (zq0 b h0 h1 ho u v) (z0 X 78) (z_lay.getD 78 (.inl (0, 0)))) := rfl
set_option maxRecDepth 100000 in
theorem zww_79 : (zww cI cZ cJ h0 h1 ho u v)[zperm.getD 79 0]? = some (zq0 b h0 h1 ho u v 79, z_el cI cZ cJ (zq0 b h0 h1 ho u v) (z0 X 79) (z_lay.getD 79 (.inl (0, 0)))) := rfl
set_option maxRecDepth 100000 in
theorem zww_80 : (zww cI cZ cJ h0 h1 ho u v)[zperm.getD 80 0]? = some (zq0 b h0 h1 ho u v 80, z_el cI cZ cJ (zq0 b h0 h1 ho u v) (z0 X 80) (z_lay.getD 80 (.inl (0, 0)))) := rfl
set_option maxRecDepth 100000 in
theorem zww_81 : (zww cI cZ cJ h0 h1 ho u v)[zperm.getD 81 0]? = some (zq0 b h0 h1 ho u v 81, z_el cI cZ cJ (zq0 b h0 h1 ho u v) (z0 X 81) (z_lay.getD 81 (.inl (0, 0)))) := rfl
set_option maxRecDepth 100000 in
theorem zww_82 : (zww cI cZ cJ h0 h1 ho u v)[zperm.getD 82 0]? = some (zq0 b h0 h1 ho u v 82, z_el cI cZ cJ (zq0 b h0 h1 ho u v) (z0 X 82) (z_lay.getD 82 (.inl (0, 0)))) := rfl
set_option maxRecDepth 100000 in
theorem zww_83 : (zww cI cZ cJ h0 h1 ho u v)[zperm.getD 83 0]? = some (zq0 b h0 h1 ho u v 83, z_el cI cZ cJ (zq0 b h0 h1 ho u v) (z0 X 83) (z_lay.getD 83 (.inl (0, 0)))) := rfl
set_option maxRecDepth 100000 in
theorem zww_84 : (zww cI cZ cJ h0 h1 ho u v)[zperm.getD 84 0]? = some (zq0 b h0 h1 ho u v 84, z_el cI cZ cJ (zq0 b h0 h1 ho u v) (z0 X 84) (z_lay.getD 84 (.inl (0, 0)))) := rfl
set_option maxRecDepth 100000 in
theorem zww_85 : (zww cI cZ cJ h0 h1 ho u v)[zperm.getD 85 0]? = some (zq0 b h0 h1 ho u v 85, z_el cI cZ cJ (zq0 b h0 h1 ho u v) (z0 X 85) (z_lay.getD 85 (.inl (0, 0)))) := rfl
set_option maxRecDepth 100000 in
theorem zww_86 : (zww cI cZ cJ h0 h1 ho u v)[zperm.getD 86 0]? = some (zq0 b h0 h1 ho u v 86, z_el cI cZ cJ (zq0 b h0 h1 ho u v) (z0 X 86) (z_lay.getD 86 (.inl (0, 0)))) := rfl
set_option maxRecDepth 100000 in
theorem zww_87 : (zww cI cZ cJ h0 h1 ho u v)[zperm.getD 87 0]? = some (zq0 b h0 h1 ho u v 87, z_el cI cZ cJ (zq0 b h0 h1 ho u v) (z0 X 87) (z_lay.getD 87 (.inl (0, 0)))) := rfl
set_option maxRecDepth 100000 in
theorem zww_88 : (zww cI cZ cJ h0 h1 ho u v)[zperm.getD 88 0]? = some (zq0 b h0 h1 ho u v 88, z_el cI cZ cJ (zq0 b h0 h1 ho u v) (z0 X 88) (z_lay.getD 88 (.inl (0, 0)))) := rfl
set_option maxRecDepth 100000 in
theorem zww_89 : (zww cI cZ cJ h0 h1 ho u v)[zperm.getD 89 0]? = some (zq0 b h0 h1 ho u v 89, z_el cI cZ cJ (zq0 b h0 h1 ho u v) (z0 X 89) (z_lay.getD 89 (.inl (0, 0)))) := rfl
set_option maxRecDepth 100000 in
theorem zww_90 : (zww cI cZ cJ h0 h1 ho u v)[zperm.getD 90 0]? = some (zq0 b h0 h1 ho u v 90, z_el cI cZ cJ (zq0 b h0 h1 ho u v) (z0 X 90) (z_lay.getD 90 (.inl (0, 0)))) := rfl
set_option maxRecDepth 100000 in
theorem zww_91 : (zww cI cZ cJ h0 h1 ho u v)[zperm.getD 91 0]? = some (zq0 b h0 h1 ho u v 91, z_el cI cZ cJ (zq0 b h0 h1 ho u v) (z0 X 91) (z_lay.getD 91 (.inl (0, 0)))) := rfl
set_option maxRecDepth 100000 in
theorem zww_92 : (zww cI cZ cJ h0 h1 ho u v)[zperm.getD 92 0]? = some (zq0 b h0 h1 ho u v 92, z_el cI cZ cJ (zq0 b h0 h1 ho u v) (z0 X 92) (z_lay.getD 92 (.inl (0, 0)))) := rfl
set_option maxRecDepth 100000 in
theorem zww_93 : (zww cI cZ cJ h0 h1 ho u v)[zperm.getD 93 0]? = some (zq0 b h0 h1 ho u v 93, z_el cI cZ cJ (zq0 b h0 h1 ho u v) (z0 X 93) (z_lay.getD 93 (.inl (0, 0)))) := rfl
set_option maxRecDepth 100000 in
theorem zww_94 : (zww cI cZ cJ h0 h1 ho u v)[zperm.getD 94 0]? = some (zq0 b h0 h1 ho u v 94, z_el cI cZ cJ (zq0 b h0 h1 ho u v) (z0 X 94) (z_lay.getD 94 (.inl (0, 0)))) := rfl
set_option maxRecDepth 100000 in
theorem zww_95 : (zww cI cZ cJ h0 h1 ho u v)[zperm.getD 95 0]? = some (zq0 b h0 h1 ho u v 95, z_el cI cZ cJ (zq0 b h0 h1 ho u v) (z0 X 95) (z_lay.getD 95 (.inl (0, 0)))) := rfl
set_option maxRecDepth 100000 in
theorem zww_96 : (zww cI cZ cJ h0 h1 ho u v)[zperm.getD 96 0]? = some (zq0 b h0 h1 ho u v 96, z_el cI cZ cJ (zq0 b h0 h1 ho u v) (z0 X 96) (z_lay.getD 96 (.inl (0, 0)))) := rfl
set_option maxRecDepth 100000 in
theorem zww_97 : (zww cI cZ cJ h0 h1 ho u v)[zperm.getD 97 0]? = some (zq0 b h0 h1 ho u v 97, z_el cI cZ cJ (zq0 b h0 h1 ho u v) (z0 X 97) (z_lay.getD 97 (.inl (0, 0)))) := rfl
set_option maxRecDepth 100000 in
theorem zww_98 : (zww cI cZ cJ h0 h1 ho u v)[zperm.getD 98 0]? = some (zq0 b h0 h1 ho u v 98, z_el cI cZ cJ (zq0 b h0 h1 ho u v) (z0 X 98) (z_lay.getD 98 (.inl (0, 0)))) := rfl
set_option maxRecDepth 100000 in
theorem zww_99 : (zww cI cZ cJ h0 h1 ho u v)[zperm.getD 99 0]? = some (zq0 b h0 h1 ho u v 99, z_el cI cZ cJ (zq0 b h0 h1 ho u v) (z0 X 99) (z_lay.getD 99 (.inl (0, 0)))) := rfl
set_option maxRecDepth 100000 in
theorem zww_100 : (zww cI cZ cJ h0 h1 ho u v)[zperm.getD 100 0]? = some (zq0 b h0 h1 ho u v 100, z_el cI cZ cJ (zq0 b h0 h1 ho u v) (z0 X 100) (z_lay.getD 100 (.inl (0, 0)))) := rfl
set_option maxRecDepth 100000 in
theorem zww_101 : (zww cI cZ cJ h0 h1 ho u v)[zperm.getD 101 0]? = some (zq0 b h0 h1 ho u v 101, z_el cI cZ cJ (zq0 b h0 h1 ho u v) (z0 X 101) (z_lay.getD 101 (.inl (0, 0)))) := rfl
set_option maxRecDepth 100000 in
theorem zww_102 : (zww cI cZ cJ h0 h1 ho u v)[zperm.getD 102 0]? = some (zq0 b h0 h1 ho u v 102, z_el cI cZ cJ (zq0 b h0 h1 ho u v) (z0 X 102) (z_lay.getD 102 (.inl (0, 0)))) := rfl
set_option maxRecDepth 100000 in
theorem zww_103 : (zww cI cZ cJ h0 h1 ho u v)[zperm.getD 103 0]? = some (zq0 b h0 h1 ho u v 103, z_el cI cZ cJ (zq0 b h0 h1 ho u v) (z0 X 103) (z_lay.getD 103 (.inl (0, 0)))) := rfl
set_option maxRecDepth 100000 in
theorem zww_104 : (zww cI cZ cJ h0 h1 ho u v)[zperm.getD 104 0]? = some (zq0 b h0 h1 ho u v 104, z_el cI cZ cJ (zq0 b h0 h1 ho u v) (z0 X 104) (z_lay.getD 104 (.inl (0, 0)))) := rfl
set_option maxRecDepth 100000 in
theorem zww_105 : (zww cI cZ cJ h0 h1 ho u v)[zperm.getD 105 0]? = some (zq0 b h0 h1 ho u v 105, z_el cI cZ cJ (zq0 b h0 h1 ho u v) (z0 X 105) (z_lay.getD 105 (.inl (0, 0)))) := rfl
set_option maxRecDepth 100000 in
theorem zww_106 : (zww cI cZ cJ h0 h1 ho u v)[zperm.getD 106 0]? = some (zq0 b h0 h1 ho u v 106, z_el cI cZ cJ (zq0 b h0 h1 ho u v) (z0 X 106) (z_lay.getD 106 (.inl (0, 0)))) := rfl
set_option maxRecDepth 100000 in
theorem zww_107 : (zww cI cZ cJ h0 h1 ho u v)[zperm.getD 107 0]? = some (zq0 b h0 h1 ho u v 107, z_el cI cZ cJ (zq0 b h0 h1 ho u v) (z0 X 107) (z_lay.getD 107 (.inl (0, 0)))) := rfl
set_option maxRecDepth 100000 in
theorem zww_108 : (zww cI cZ cJ h0 h1 ho u v)[zperm.getD 108 0]? = some (zq0 b h0 h1 ho u v 108, z_el cI cZ cJ (zq0 b h0 h1 ho u v) (z0 X 108) (z_lay.getD 108 (.inl (0, 0)))) := rfl
set_option maxRecDepth 100000 in
theorem zww_109 : (zww cI cZ cJ h0 h1 ho u v)[zperm.getD 109 0]? = some (zq0 b h0 h1 ho u v 109, z_el cI cZ cJ (zq0 b h0 h1 ho u v) (z0 X 109) (z_lay.getD 109 (.inl (0, 0)))) := rfl
set_option maxRecDepth 100000 in
theorem zww_110 : (zww cI cZ cJ h0 h1 ho u v)[zperm.getD 110 0]? = some (zq0 b h0 h1 ho u v 110, z_el cI cZ cJ (zq0 b h0 h1 ho u v) (z0 X 110) (z_lay.getD 110 (.inl (0, 0)))) := rfl
set_option maxRecDepth 100000 in
theorem zww_111 : (zww cI cZ cJ h0 h1 ho u v)[zperm.getD 111 0]? = some (zq0 b h0 h1 ho u v 111, z_el cI cZ cJ (zq0 b h0 h1 ho u v) (z0 X 111) (z_lay.getD 111 (.inl (0, 0)))) := rfl
set_option maxRecDepth 100000 in
theorem zww_112 : (zww cI cZ cJ h0 h1 ho u v)[zperm.getD 112 0]? = some (zq0 b h0 h1 ho u v 112, z_el cI cZ cJ (zq0 b h0 h1 ho u v) (z0 X 112) (z_lay.getD 112 (.inl (0, 0)))) := rfl
set_option maxRecDepth 100000 in
theorem zww_113 : (zww cI cZ cJ h0 h1 ho u v)[zperm.getD 113 0]? = some (zq0 b h0 h1 ho u v 113, z_el cI cZ cJ (zq0 b h0 h1 ho u v) (z0 X 113) (z_lay.getD 113 (.inl (0, 0)))) := rfl
set_option maxRecDepth 100000 in
theorem zww_114 : (zww cI cZ cJ h0 h1 ho u v)[zperm.getD 114 0]? = some (zq0 b h0 h1 ho u v 114, z_el cI cZ cJ (zq0 b h0 h1 ho u v) (z0 X 114) (z_lay.getD 114 (.inl (0, 0)))) := rfl
set_option maxRecDepth 100000 in
theorem zww_115 : (zww cI cZ cJ h0 h1 ho u v)[zperm.getD 115 0]? = some (zq0 b h0 h1 ho u v 115, z_el cI cZ cJ (zq0 b h0 h1 ho u v) (z0 X 115) (z_lay.getD 115 (.inl (0, 0)))) := rfl
set_option maxRecDepth 100000 in
theorem zww_116 : (zww cI cZ cJ h0 h1 ho u v)[zperm.getD 116 0]? = some (zq0 b h0 h1 ho u v 116, z_el cI cZ cJ (zq0 b h0 h1 ho u v) (z0 X 116) (z_lay.getD 116 (.inl (0, 0)))) := rfl
set_option maxRecDepth 100000 in
theorem zww_117 : (zww cI cZ cJ h0 h1 ho u v)[zperm.getD 117 0]? = some (zq0 b h0 h1 ho u v 117, z_el cI cZ cJ (zq0 b h0 h1 ho u v) (z0 X 117) (z_lay.getD 117 (.inl (0, 0)))) := rfl
set_option maxRecDepth 100000 in
theorem zww_118 : (zww cI cZ cJ h0 h1 ho u v)[zperm.getD 118 0]? = some (zq0 b h0 h1 ho u v 118, z_el cI cZ cJ (zq0 b h0 h1 ho u v) (z0 X 118) (z_lay.getD 118 (.inl (0, 0)))) := rfl
set_option maxRecDepth 100000 in
theorem zww_119 : (zww cI cZ cJ h0 h1 ho u v)[zperm.getD 119 0]? = some (zq0 b h0 h1 ho u v 119, z_el cI cZ cJ (zq0 b h0 h1 ho u v) (z0 X 119) (z_lay.getD 119 (.inl (0, 0)))) := rfl
set_option maxRecDepth 100000 in
theorem zww_120 : (zww cI cZ cJ h0 h1 ho u v)[zperm.getD 120 0]? = some (zq0 b h0 h1 ho u v 120, z_el cI cZ cJ (zq0 b h0 h1 ho u v) (z0 X 120) (z_lay.getD 120 (.inl (0, 0)))) := rfl
set_option maxRecDepth 100000 in
theorem zww_121 : (zww cI cZ cJ h0 h1 ho u v)[zperm.getD 121 0]? = some (zq0 b h0 h1 ho u v 121, z_el cI cZ cJ (zq0 b h0 h1 ho u v) (z0 X 121) (z_lay.getD 121 (.inl (0, 0)))) := rfl
set_option maxRecDepth 100000 in
theorem zww_122 : (zww cI cZ cJ h0 h1 ho u v)[zperm.getD 122 0]? = some (zq0 b h0 h1 ho u v 122, z_el cI cZ cJ (zq0 b h0 h1 ho u v) (z0 X 122) (z_lay.getD 122 (.inl (0, 0)))) := rfl
set_option maxRecDepth 100000 in
theorem zww_123 : (zww cI cZ cJ h0 h1 ho u v)[zperm.getD 123 0]? = some (zq0 b h0 h1 ho u v 123, z_el cI cZ cJ (zq0 b h0 h1 ho u v) (z0 X 123) (z_lay.getD 123 (.inl (0, 0)))) := rfl
set_option maxRecDepth 100000 in
theorem zww_124 : (zww cI cZ cJ h0 h1 ho u v)[zperm.getD 124 0]? = some (zq0 b h0 h1 ho u v 124, z_el cI cZ cJ (zq0 b h0 h1 ho u v) (z0 X 124) (z_lay.getD 124 (.inl (0, 0)))) := rfl
set_option maxRecDepth 100000 in
theorem zww_125 : (zww cI cZ cJ h0 h1 ho u v)[zperm.getD 125 0]? = some (zq0 b h0 h1 ho u v 125, z_el cI cZ cJ (zq0 b h0 h1 ho u v) (z0 X 125) (z_lay.getD 125 (.inl (0, 0)))) := rfl
set_option maxRecDepth 100000 in
theorem zww_126 : (zww cI cZ cJ h0 h1 ho u v)[zperm.getD 126 0]? = some (zq0 b h0 h1 ho u v 126, z_el cI cZ cJ (zq0 b h0 h1 ho u v) (z0 X 126) (z_lay.getD 126 (.inl (0, 0)))) := rfl
set_option maxRecDepth 100000 in
theorem zww_127 : (zww cI cZ cJ h0 h1 ho u v)[zperm.getD 127 0]? = some (zq0 b h0 h1 ho u v 127, z_el cI cZ cJ (zq0 b h0 h1 ho u v) (z0 X 127) (z_lay.getD 127 (.inl (0, 0)))) := rfl
set_option maxRecDepth 100000 in
theorem zww_128 : (zww cI cZ cJ h0 h1 ho u v)[zperm.getD 128 0]? = some (zq0 b h0 h1 ho u v 128, z_el cI cZ cJ (zq0 b h0 h1 ho u v) (z0 X 128) (z_lay.getD 128 (.inl (0, 0)))) := rfl
set_option maxRecDepth 100000 in
theorem zww_129 : (zww cI cZ cJ h0 h1 ho u v)[zperm.getD 129 0]? = some (zq0 b h0 h1 ho u v 129, z_el cI cZ cJ (zq0 b h0 h1 ho u v) (z0 X 129) (z_lay.getD 129 (.inl (0, 0)))) := rfl
set_option maxRecDepth 100000 in
theorem zww_130 : (zww cI cZ cJ h0 h1 ho u v)[zperm.getD 130 0]? = some (zq0 b h0 h1 ho u v 130, z_el cI cZ cJ (zq0 b h0 h1 ho u v) (z0 X 130) (z_lay.getD 130 (.inl (0, 0)))) := rfl
set_option maxRecDepth 100000 in
theorem zww_131 : (zww cI cZ cJ h0 h1 ho u v)[zperm.getD 131 0]? = some (zq0 b h0 h1 ho u v 131, z_el cI cZ cJ (zq0 b h0 h1 ho u v) (z0 X 131) (z_lay.getD 131 (.inl (0, 0)))) := rfl
set_option maxRecDepth 100000 in
theorem zww_132 : (zww cI cZ cJ h0 h1 ho u v)[zperm.getD 132 0]? = some (zq0 b h0 h1 ho u v 132, z_el cI cZ cJ (zq0 b h0 h1 ho u v) (z0 X 132) (z_lay.getD 132 (.inl (0, 0)))) := rfl
set_option maxRecDepth 100000 in
theorem zww_133 : (zww cI cZ cJ h0 h1 ho u v)[zperm.getD 133 0]? = some (zq0 b h0 h1 ho u v 133, z_el cI cZ cJ (zq0 b h0 h1 ho u v) (z0 X 133) (z_lay.getD 133 (.inl (0, 0)))) := rfl
set_option maxRecDepth 100000 in
theorem zww_134 : (zww cI cZ cJ h0 h1 ho u v)[zperm.getD 134 0]? = some (zq0 b h0 h1 ho u v 134, z_el cI cZ cJ (zq0 b h0 h1 ho u v) (z0 X 134) (z_lay.getD 134 (.inl (0, 0)))) := rfl
set_option maxRecDepth 100000 in
theorem zww_135 : (zww cI cZ cJ h0 h1 ho u v)[zperm.getD 135 0]? = some (zq0 b h0 h1 ho u v 135, z_el cI cZ cJ (zq0 b h0 h1 ho u v) (z0 X 135) (z_lay.getD 135 (.inl (0, 0)))) := rfl
set_option maxRecDepth 100000 in
theorem zww_136 : (zww cI cZ cJ h0 h1 ho u v)[zperm.getD 136 0]? = some (zq0 b h0 h1 ho u v 136, z_el cI cZ cJ (zq0 b h0 h1 ho u v) (z0 X 136) (z_lay.getD 136 (.inl (0, 0)))) := rfl
set_option maxRecDepth 100000 in
theorem zww_137 : (zww cI cZ cJ h0 h1 ho u v)[zperm.getD 137 0]? = some (zq0 b h0 h1 ho u v 137, z_el cI cZ cJ (zq0 b h0 h1 ho u v) (z0 X 137) (z_lay.getD 137 (.inl (0, 0)))) := rfl
set_option maxRecDepth 100000 in
theorem zww_138 : (zww cI cZ cJ h0 h1 ho u v)[zperm.getD 138 0]? = some (zq0 b h0 h1 ho u v 138, z_el cI cZ cJ (zq0 b h0 h1 ho u v) (z0 X 138) (z_lay.getD 138 (.inl (0, 0)))) := rfl
set_option maxRecDepth 100000 in
theorem zww_139 : (zww cI cZ cJ h0 h1 ho u v)[zperm.getD 139 0]? = some (zq0 b h0 h1 ho u v 139, z_el cI cZ cJ (zq0 b h0 h1 ho u v) (z0 X 139) (z_lay.getD 139 (.inl (0, 0)))) := rfl
set_option maxRecDepth 100000 in
theorem zww_140 : (zww cI cZ cJ h0 h1 ho u v)[zperm.getD 140 0]? = some (zq0 b h0 h1 ho u v 140, z_el cI cZ cJ (zq0 b h0 h1 ho u v) (z0 X 140) (z_lay.getD 140 (.inl (0, 0)))) := rfl
set_option maxRecDepth 100000 in
theorem zww_141 : (zww cI cZ cJ h0 h1 ho u v)[zperm.getD 141 0]? = some (zq0 b h0 h1 ho u v 141, z_el cI cZ cJ (zq0 b h0 h1 ho u v) (z0 X 141) (z_lay.getD 141 (.inl (0, 0)))) := rfl
set_option maxRecDepth 100000 in
theorem zww_142 : (zww cI cZ cJ h0 h1 ho u v)[zperm.getD 142 0]? = some (zq0 b h0 h1 ho u v 142, z_el cI cZ cJ (zq0 b h0 h1 ho u v) (z0 X 142) (z_lay.getD 142 (.inl (0, 0)))) := rfl
set_option maxRecDepth 100000 in
theorem zww_143 : (zww cI cZ cJ h0 h1 ho u v)[zperm.getD 143 0]? = some (zq0 b h0 h1 ho u v 143, z_el cI cZ cJ (zq0 b h0 h1 ho u v) (z0 X 143) (z_lay.getD 143 (.inl (0, 0)))) := rfl
set_option maxRecDepth 100000 in
theorem zww_144 : (zww cI cZ cJ h0 h1 ho u v)[zperm.getD 144 0]? = some (zq0 b h0 h1 ho u v 144, z_el cI cZ cJ (zq0 b h0 h1 ho u v) (z0 X 144) (z_lay.getD 144 (.inl (0, 0)))) := rfl
set_option maxRecDepth 100000 in
theorem zww_145 : (zww cI cZ cJ h0 h1 ho u v)[zperm.getD 145 0]? = some (zq0 b h0 h1 ho u v 145, z_el cI cZ cJ (zq0 b h0 h1 ho u v) (z0 X 145) (z_lay.getD 145 (.inl (0, 0)))) := rfl
set_option maxRecDepth 100000 in
theorem zww_146 : (zww cI cZ cJ h0 h1 ho u v)[zperm.getD 146 0]? = some (zq0 b h0 h1 ho u v 146, z_el cI cZ cJ (zq0 b h0 h1 ho u v) (z0 X 146) (z_lay.getD 146 (.inl (0, 0)))) := rfl
set_option maxRecDepth 100000 in
theorem zww_147 : (zww cI cZ cJ h0 h1 ho u v)[zperm.getD 147 0]? = some (zq0 b h0 h1 ho u v 147, z_el cI cZ cJ (zq0 b h0 h1 ho u v) (z0 X 147) (z_lay.getD 147 (.inl (0, 0)))) := rfl
theorem zww_148 : (zww cI cZ cJ h0 h1 ho u v)[zperm.getD 148 0]? = some (zq0 b h0 h1 ho u v 148, z_el cI cZ cJ (zq0 b h0 h1 ho u v) (z0 X 148) (z_lay.getD 148 (.inl (0, 0)))) := by
  show some (ho, (Sum.inl (cJ, 1, .inr (.inl fun _ => (0 : Int64))) : va_E)) = some (ho, .inl (cJ, 1, .inr (.inl fun i => ((fun _ => (0 : Int32)) i).toInt64)))
  rw [zk_J0]
theorem zww_all : ∀ j, j < 149 → (zww cI cZ cJ h0 h1 ho u v)[zperm.getD j 0]? = some (zq0 b h0 h1 ho u v j, z_el cI cZ cJ (zq0 b h0 h1 ho u v) (z0 X j) (z_lay.getD j (.inl (0, 0)))) := by
  intro j hj
  match j, hj with
  | 0, _ => exact zww_0
  | 1, _ => exact zww_1
  | 2, _ => exact zww_2
  | 3, _ => exact zww_3
  | 4, _ => exact zww_4
  | 5, _ => exact zww_5
  | 6, _ => exact zww_6
  | 7, _ => exact zww_7
  | 8, _ => exact zww_8
  | 9, _ => exact zww_9
  | 10, _ => exact zww_10
  | 11, _ => exact zww_11
  | 12, _ => exact zww_12
  | 13, _ => exact zww_13
  | 14, _ => exact zww_14
  | 15, _ => exact zww_15
  | 16, _ => exact zww_16
  | 17, _ => exact zww_17
  | 18, _ => exact zww_18
  | 19, _ => exact zww_19
  | 20, _ => exact zww_20
  | 21, _ => exact zww_21
  | 22, _ => exact zww_22
  | 23, _ => exact zww_23
  | 24, _ => exact zww_24
  | 25, _ => exact zww_25
  | 26, _ => exact zww_26
  | 27, _ => exact zww_27
  | 28, _ => exact zww_28
  | 29, _ => exact zww_29
  | 30, _ => exact zww_30
  | 31, _ => exact zww_31
  | 32, _ => exact zww_32
  | 33, _ => exact zww_33
  | 34, _ => exact zww_34
  | 35, _ => exact zww_35
  | 36, _ => exact zww_36
  | 37, _ => exact zww_37
  | 38, _ => exact zww_38
  | 39, _ => exact zww_39
  | 40, _ => exact zww_40
  | 41, _ => exact zww_41
  | 42, _ => exact zww_42
  | 43, _ => exact zww_43
  | 44, _ => exact zww_44
  | 45, _ => exact zww_45
  | 46, _ => exact zww_46
  | 47, _ => exact zww_47
  | 48, _ => exact zww_48
  | 49, _ => exact zww_49
  | 50, _ => exact zww_50
  | 51, _ => exact zww_51
  | 52, _ => exact zww_52
  | 53, _ => exact zww_53
  | 54, _ => exact zww_54
  | 55, _ => exact zww_55
  | 56, _ => exact zww_56
  | 57, _ => exact zww_57
  | 58, _ => exact zww_58
  | 59, _ => exact zww_59
  | 60, _ => exact zww_60
  | 61, _ => exact zww_61
  | 62, _ => exact zww_62
  | 63, _ => exact zww_63
  | 64, _ => exact zww_64
  | 65, _ => exact zww_65
  | 66, _ => exact zww_66
  | 67, _ => exact zww_67
  | 68, _ => exact zww_68
  | 69, _ => exact zww_69
  | 70, _ => exact zww_70
  | 71, _ => exact zww_71
  | 72, _ => exact zww_72
  | 73, _ => exact zww_73
  | 74, _ => exact zww_74
  | 75, _ => exact zww_75
  | 76, _ => exact zww_76
  | 77, _ => exact zww_77
  | 78, _ => exact zww_78
  | 79, _ => exact zww_79
  | 80, _ => exact zww_80
  | 81, _ => exact zww_81
  | 82, _ => exact zww_82
  | 83, _ => exact zww_83
  | 84, _ => exact zww_84
  | 85, _ => exact zww_85
  | 86, _ => exact zww_86
  | 87, _ => exact zww_87
  | 88, _ => exact zww_88
  | 89, _ => exact zww_89
  | 90, _ => exact zww_90
  | 91, _ => exact zww_91
  | 92, _ => exact zww_92
  | 93, _ => exact zww_93
  | 94, _ => exact zww_94
  | 95, _ => exact zww_95
  | 96, _ => exact zww_96
  | 97, _ => exact zww_97
  | 98, _ => exact zww_98
  | 99, _ => exact zww_99
  | 100, _ => exact zww_100
  | 101, _ => exact zww_101
  | 102, _ => exact zww_102
  | 103, _ => exact zww_103
  | 104, _ => exact zww_104
  | 105, _ => exact zww_105
  | 106, _ => exact zww_106
  | 107, _ => exact zww_107
  | 108, _ => exact zww_108
  | 109, _ => exact zww_109
  | 110, _ => exact zww_110
  | 111, _ => exact zww_111
  | 112, _ => exact zww_112
  | 113, _ => exact zww_113
  | 114, _ => exact zww_114
  | 115, _ => exact zww_115
  | 116, _ => exact zww_116
  | 117, _ => exact zww_117
  | 118, _ => exact zww_118
  | 119, _ => exact zww_119
  | 120, _ => exact zww_120
  | 121, _ => exact zww_121
  | 122, _ => exact zww_122
  | 123, _ => exact zww_123
  | 124, _ => exact zww_124
  | 125, _ => exact zww_125
  | 126, _ => exact zww_126
  | 127, _ => exact zww_127
  | 128, _ => exact zww_128
  | 129, _ => exact zww_129
  | 130, _ => exact zww_130
  | 131, _ => exact zww_131
  | 132, _ => exact zww_132
  | 133, _ => exact zww_133
  | 134, _ => exact zww_134
  | 135, _ => exact zww_135
  | 136, _ => exact zww_136
  | 137, _ => exact zww_137
  | 138, _ => exact zww_138
  | 139, _ => exact zww_139
  | 140, _ => exact zww_140
  | 141, _ => exact zww_141
  | 142, _ => exact zww_142
  | 143, _ => exact zww_143
  | 144, _ => exact zww_144
  | 145, _ => exact zww_145
  | 146, _ => exact zww_146
  | 147, _ => exact zww_147
  | 148, _ => exact zww_148
  | n + 149, h => exact absurd h (by omega)
theorem zww_P {dC : Nat → ClassId} {dI : Nat → Nat → Nat} {H : Heap} (hP : va_P (dC, dI) vwCl (zww cI cZ cJ h0 h1 ho u v) H) : va_P (dC, dI) vwCl (z_W cI cZ cJ (zq0 b h0 h1 ho u v) (z0 X)) H := by
  intro k q hq
  have hk : k < 149 := by
    have := (List.getElem?_eq_some_iff.mp hq).1
    simpa [z_W, zlay_len] using this
  have e1 := zww_all (cI := cI) (cZ := cZ) (cJ := cJ) (b := b) (h0 := h0) (h1 := h1) (ho := ho) (u := u) (v := v) (X := X) k hk
  have e2 : (z_W cI cZ cJ (zq0 b h0 h1 ho u v) (z0 X))[k]? = some (zq0 b h0 h1 ho u v k, z_el cI cZ cJ (zq0 b h0 h1 ho u v) (z0 X k) (z_lay.getD k (.inl (0, 0)))) := by
    rw [z_W, List.getElem?_map, List.getElem?_range (by rw [zlay_len]; exact hk), Option.map_some]
  rw [e2] at hq
  cases hq
  exact hP _ _ e1
theorem zww_A {A : Nat → Prop} (hD : va_D A (zww cI cZ cJ h0 h1 ho u v)) (hb : ¬ A b) : z_Ap (zq0 b h0 h1 ho u v) A := by
  refine ⟨fun i j hi hj h => ?_, fun j hj => ?_, hb⟩
  · rw [zlay_len] at hi hj
    exact zperm_inj i hi j hj (hD.1 _ _ _ _ (zww_all (b := b) (X := fun _ => 0) i hi) (zww_all (b := b) (X := fun _ => 0) j hj) h)
  · rw [zlay_len] at hj
    exact hD.2 _ _ (zww_all (b := b) (X := fun _ => 0) j hj)
end ZW3
