/-! the walk of the law's first instructions, up to its loop; the claim -/
theorem zk_good11 : GoodIn z_T zk_ws11 := z_goodIn (List.forall_mem_cons.mpr ⟨(z_w_in (k := 25) (by decide +kernel)), fun _ h => h⟩)
theorem zk_tT {args : Array Value} {s : State} (h : ∀ w ∈ lw_tbl, w.before args s = true) : ∀ w ∈ z_T, w.before args s = true := fun w hw => h w (List.mem_filter.mp hw).1
theorem zk_tin {i : Nat} {w : Cond} (h : tables_1[i]? = some w) : w ∈ lw_tbl := List.mem_append_right _ (List.mem_of_getElem? h)
/-- the classes, as the tables know them -/
theorem zk_known {args : Array Value} {s : State} (h : ∀ w ∈ z_T, w.before args s = true) : ∃ (dC : Nat → ClassId) (dI : Nat → Nat → Nat), ∀ (k : Nat) (q : vw_C), vwCl[k]? = some q → u_Kn s q.1 q.2.1 q.2.2 (dC k) (dI k) := by
  have H : ∀ k : Nat, ∃ (c : ClassId) (iS : Nat → Nat), ∀ q : vw_C, vwCl[k]? = some q → u_Kn s q.1 q.2.1 q.2.2 c iS := by
    intro k
    by_cases h0 : k = 0
    · subst h0
      obtain ⟨c, iS, hk⟩ := u_known (C := RX0) (T := TX0) (N := 6) (n := 6) h z_in0 (h (.instantiable RX0 6) (z_w_in (k := 338) (by decide +kernel)))
      exact ⟨c, iS, fun q hq => by cases hq; exact hk⟩
    by_cases h1 : k = 1
    · subst h1
      obtain ⟨c, iS, hk⟩ := u_known (C := RX1) (T := TX1) (N := 4) (n := 4) h z_in1 (h (.instantiable RX1 4) (z_w_in (k := 93) (by decide +kernel)))
      exact ⟨c, iS, fun q hq => by cases hq; exact hk⟩
    by_cases h2 : k = 2
    · subst h2
      obtain ⟨c, iS, hk⟩ := u_known (C := RX2) (T := TX2) (N := 7) (n := 7) h z_in2 (h (.instantiable RX2 7) (z_w_in (k := 268) (by decide +kernel)))
      exact ⟨c, iS, fun q hq => by cases hq; exact hk⟩
    by_cases h3 : k = 3
    · subst h3
      obtain ⟨c, iS, hk⟩ := u_known (C := RX3) (T := TX3) (N := 11) (n := 11) h z_in3 (h (.instantiable RX3 11) (z_w_in (k := 298) (by decide +kernel)))
      exact ⟨c, iS, fun q hq => by cases hq; exact hk⟩
    by_cases h4 : k = 4
    · subst h4
      obtain ⟨c, iS, hk⟩ := u_known (C := RX4) (T := TX4) (N := 6) (n := 6) h z_in4 (h (.instantiable RX4 6) (z_w_in (k := 68) (by decide +kernel)))
      exact ⟨c, iS, fun q hq => by cases hq; exact hk⟩
    by_cases h5 : k = 5
    · subst h5
      obtain ⟨c, iS, hk⟩ := u_known (C := RX5) (T := TX5) (N := 11) (n := 11) h z_in5 (h (.instantiable RX5 11) (z_w_in (k := 193) (by decide +kernel)))
      exact ⟨c, iS, fun q hq => by cases hq; exact hk⟩
    by_cases h6 : k = 6
    · subst h6
      obtain ⟨c, iS, hk⟩ := u_known (C := RX6) (T := TX6) (N := 10) (n := 10) h z_in6 (h (.instantiable RX6 10) (z_w_in (k := 112) (by decide +kernel)))
      exact ⟨c, iS, fun q hq => by cases hq; exact hk⟩
    by_cases h7 : k = 7
    · subst h7
      obtain ⟨c, iS, hk⟩ := u_known (C := RX7) (T := TX7) (N := 11) (n := 11) h z_in7 (h (.instantiable RX7 11) (z_w_in (k := 30) (by decide +kernel)))
      exact ⟨c, iS, fun q hq => by cases hq; exact hk⟩
    by_cases h8 : k = 8
    · subst h8
      obtain ⟨c, iS, hk⟩ := u_known (C := RX8) (T := TX8) (N := 4) (n := 4) h z_in8 (h (.instantiable RX8 4) (z_w_in (k := 363) (by decide +kernel)))
      exact ⟨c, iS, fun q hq => by cases hq; exact hk⟩
    by_cases h9 : k = 9
    · subst h9
      obtain ⟨c, iS, hk⟩ := u_known (C := RX9) (T := TX9) (N := 4) (n := 4) h z_in9 (h (.instantiable RX9 4) (z_w_in (k := 233) (by decide +kernel)))
      exact ⟨c, iS, fun q hq => by cases hq; exact hk⟩
    by_cases h10 : k = 10
    · subst h10
      obtain ⟨c, iS, hk⟩ := u_known (C := RX10) (T := TX10) (N := 12) (n := 12) h z_in10 (h (.instantiable RX10 12) (z_w_in (k := 149) (by decide +kernel)))
      exact ⟨c, iS, fun q hq => by cases hq; exact hk⟩
    by_cases h11 : k = 11
    · subst h11
      obtain ⟨c, iS, hk⟩ := u_known (C := RX11) (T := TX11) (N := 12) (n := 12) h z_in11 (h (.instantiable RX11 12) (z_w_in (k := 22) (by decide +kernel)))
      exact ⟨c, iS, fun q hq => by cases hq; exact hk⟩
    · refine ⟨0, fun _ => 0, fun q hq => ?_⟩
      have h13 : k < 12 := (List.getElem?_eq_some_iff.mp hq).1
      omega
  exact ⟨fun k => (H k).choose, fun k => (H k).choose_spec.choose, fun k q hq => (H k).choose_spec.choose_spec q hq⟩
/-- an array class -/
theorem zk_arr {args : Array Value} {s : State} {ty : FieldType} (h : (Cond.arrayClass ty).before args s = true) : ∃ c : ClassId, ArrOfT s c ty ∧ s.vm.findClass ("[" ++ ty.toString) = some c := by
  obtain ⟨c, k, comp, h1, h2, h3⟩ := Cond.arrayClass_spec h
  exact ⟨c, fun n z => ⟨fun k h => (by cases h), k, h2, comp, h3⟩, h1⟩
/-- the world that the law's loop begins with: its cells by the numbers of the tables -/
def zww (cI cZ : ClassId) (h0 hc he : Nat) (u : Nat → Nat) : va_W := zw11 cI cZ h0 u ++ [(hc, .inl (cI, 9, .inl fun _ => 0)), (he, .inl (cI, 12, .inl fun _ => 0))]
def zqs (h0 hc he : Nat) (u : Nat → Nat) : List Nat := [h0, u 0, u 1, u 2, u 3, u 4, u 5, u 6, u 7, u 8000, u 8, u 9, u 10, hc, u 1003, u 1004, u 3000, u 3001, u 3002, u 3003, u 4000, u 4001, u 4002, u 4003, u 4004, u 4005, u 4006, u 4007, u 4008, u 4009, u 5001, u 5002, u 5003, u 5004, u 5005, u 5006, u 5007, u 5008, u 5009, u 5010, u 5011, u 6001, u 6002, u 6003, u 6004, u 6005, u 6006, u 6007, u 6008, u 6009, u 6010, u 7000, u 7001, u 7002, u 7003, u 8001, u 8002, u 8003, u 8004, u 8100, u 8101, u 8102, u 8103, u 9001, u 9002, u 9003, u 9005, u 9006, u 9007, u 9008, u 9009, u 9010, u 10001, u 10002, u 10003, u 10004, u 10005, u 11000, u 11001, u 11002, u 11003, he]
def zq0 (b h0 hc he : Nat) (u : Nat → Nat) (j : Nat) : Nat := if j = 1000 then b else (zqs h0 hc he u).getD j 0
def zperm : List Nat := [0, 1, 4, 5, 10, 21, 33, 44, 49, 50, 59, 69, 75, 80, 2, 3, 6, 7, 8, 9, 11, 12, 13, 14, 15, 16, 17, 18, 19, 20, 22, 23, 24, 25, 26, 27, 28, 29, 30, 31, 32, 34, 35, 36, 37, 38, 39, 40, 41, 42, 43, 45, 46, 47, 48, 55, 56, 57, 58, 51, 52, 53, 54, 60, 61, 62, 63, 64, 65, 66, 67, 68, 70, 71, 72, 73, 74, 76, 77, 78, 79, 81]
theorem zperm_inj : ∀ i, i < 82 → ∀ j, j < 82 → zperm.getD i 0 = zperm.getD j 0 → i = j := by decide +kernel
theorem zlay_len : z_lay.length = 82 := by decide +kernel
section ZW3
variable {cI cZ cJ : ClassId} {b h0 hc he : Nat} {u : Nat → Nat} {X : Nat → Int32}
set_option maxRecDepth 100000 in
theorem zww_0 : (zww cI cZ h0 hc he u)[zperm.getD 0 0]? = some (zq0 b h0 hc he u 0, z_el cI cZ cJ (zq0 b h0 hc he u) (z0 X 0) (z_lay.getD 0 (.inl (0, 0)))) := rfl
set_option maxRecDepth 100000 in
theorem zww_1 : (zww cI cZ h0 hc he u)[zperm.getD 1 0]? = some (zq0 b h0 hc he u 1, z_el cI cZ cJ (zq0 b h0 hc he u) (z0 X 1) (z_lay.getD 1 (.inl (0, 0)))) := rfl
set_option maxRecDepth 100000 in
theorem zww_2 : (zww cI cZ h0 hc he u)[zperm.getD 2 0]? = some (zq0 b h0 hc he u 2, z_el cI cZ cJ (zq0 b h0 hc he u) (z0 X 2) (z_lay.getD 2 (.inl (0, 0)))) := rfl
set_option maxRecDepth 100000 in
theorem zww_3 : (zww cI cZ h0 hc he u)[zperm.getD 3 0]? = some (zq0 b h0 hc he u 3, z_el cI cZ cJ (zq0 b h0 hc he u) (z0 X 3) (z_lay.getD 3 (.inl (0, 0)))) := rfl
set_option maxRecDepth 100000 in
theorem zww_4 : (zww cI cZ h0 hc he u)[zperm.getD 4 0]? = some (zq0 b h0 hc he u 4, z_el cI cZ cJ (zq0 b h0 hc he u) (z0 X 4) (z_lay.getD 4 (.inl (0, 0)))) := rfl
set_option maxRecDepth 100000 in
theorem zww_5 : (zww cI cZ h0 hc he u)[zperm.getD 5 0]? = some (zq0 b h0 hc he u 5, z_el cI cZ cJ (zq0 b h0 hc he u) (z0 X 5) (z_lay.getD 5 (.inl (0, 0)))) := rfl
set_option maxRecDepth 100000 in
theorem zww_6 : (zww cI cZ h0 hc he u)[zperm.getD 6 0]? = some (zq0 b h0 hc he u 6, z_el cI cZ cJ (zq0 b h0 hc he u) (z0 X 6) (z_lay.getD 6 (.inl (0, 0)))) := rfl
set_option maxRecDepth 100000 in
theorem zww_7 : (zww cI cZ h0 hc he u)[zperm.getD 7 0]? = some (zq0 b h0 hc he u 7, z_el cI cZ cJ (zq0 b h0 hc he u) (z0 X 7) (z_lay.getD 7 (.inl (0, 0)))) := rfl
set_option maxRecDepth 100000 in
theorem zww_8 : (zww cI cZ h0 hc he u)[zperm.getD 8 0]? = some (zq0 b h0 hc he u 8, z_el cI cZ cJ (zq0 b h0 hc he u) (z0 X 8) (z_lay.getD 8 (.inl (0, 0)))) := rfl
set_option maxRecDepth 100000 in
theorem zww_9 : (zww cI cZ h0 hc he u)[zperm.getD 9 0]? = some (zq0 b h0 hc he u 9, z_el cI cZ cJ (zq0 b h0 hc he u) (z0 X 9) (z_lay.getD 9 (.inl (0, 0)))) := rfl
set_option maxRecDepth 100000 in
theorem zww_10 : (zww cI cZ h0 hc he u)[zperm.getD 10 0]? = some (zq0 b h0 hc he u 10, z_el cI cZ cJ (zq0 b h0 hc he u) (z0 X 10) (z_lay.getD 10 (.inl (0, 0)))) := rfl
set_option maxRecDepth 100000 in
theorem zww_11 : (zww cI cZ h0 hc he u)[zperm.getD 11 0]? = some (zq0 b h0 hc he u 11, z_el cI cZ cJ (zq0 b h0 hc he u) (z0 X 11) (z_lay.getD 11 (.inl (0, 0)))) := rfl
set_option maxRecDepth 100000 in
theorem zww_12 : (zww cI cZ h0 hc he u)[zperm.getD 12 0]? = some (zq0 b h0 hc he u 12, z_el cI cZ cJ (zq0 b h0 hc he u) (z0 X 12) (z_lay.getD 12 (.inl (0, 0)))) := rfl
set_option maxRecDepth 100000 in
theorem zww_13 : (zww cI cZ h0 hc he u)[zperm.getD 13 0]? = some (zq0 b h0 hc he u 13, z_el cI cZ cJ (zq0 b h0 hc he u) (z0 X 13) (z_lay.getD 13 (.inl (0, 0)))) := rfl
set_option maxRecDepth 100000 in
theorem zww_14 : (zww cI cZ h0 hc he u)[zperm.getD 14 0]? = some (zq0 b h0 hc he u 14, z_el cI cZ cJ (zq0 b h0 hc he u) (z0 X 14) (z_lay.getD 14 (.inl (0, 0)))) := rfl
set_option maxRecDepth 100000 in
theorem zww_15 : (zww cI cZ h0 hc he u)[zperm.getD 15 0]? = some (zq0 b h0 hc he u 15, z_el cI cZ cJ (zq0 b h0 hc he u) (z0 X 15) (z_lay.getD 15 (.inl (0, 0)))) := rfl
set_option maxRecDepth 100000 in
theorem zww_16 : (zww cI cZ h0 hc he u)[zperm.getD 16 0]? = some (zq0 b h0 hc he u 16, z_el cI cZ cJ (zq0 b h0 hc he u) (z0 X 16) (z_lay.getD 16 (.inl (0, 0)))) := rfl
set_option maxRecDepth 100000 in
theorem zww_17 : (zww cI cZ h0 hc he u)[zperm.getD 17 0]? = some (zq0 b h0 hc he u 17, z_el cI cZ cJ (zq0 b h0 hc he u) (z0 X 17) (z_lay.getD 17 (.inl (0, 0)))) := rfl
set_option maxRecDepth 100000 in
theorem zww_18 : (zww cI cZ h0 hc he u)[zperm.getD 18 0]? = some (zq0 b h0 hc he u 18, z_el cI cZ cJ (zq0 b h0 hc he u) (z0 X 18) (z_lay.getD 18 (.inl (0, 0)))) := rfl
set_option maxRecDepth 100000 in
theorem zww_19 : (zww cI cZ h0 hc he u)[zperm.getD 19 0]? = some (zq0 b h0 hc he u 19, z_el cI cZ cJ (zq0 b h0 hc he u) (z0 X 19) (z_lay.getD 19 (.inl (0, 0)))) := rfl
set_option maxRecDepth 100000 in
theorem zww_20 : (zww cI cZ h0 hc he u)[zperm.getD 20 0]? = some (zq0 b h0 hc he u 20, z_el cI cZ cJ (zq0 b h0 hc he u) (z0 X 20) (z_lay.getD 20 (.inl (0, 0)))) := rfl
set_option maxRecDepth 100000 in
theorem zww_21 : (zww cI cZ h0 hc he u)[zperm.getD 21 0]? = some (zq0 b h0 hc he u 21, z_el cI cZ cJ (zq0 b h0 hc he u) (z0 X 21) (z_lay.getD 21 (.inl (0, 0)))) := rfl
set_option maxRecDepth 100000 in
theorem zww_22 : (zww cI cZ h0 hc he u)[zperm.getD 22 0]? = some (zq0 b h0 hc he u 22, z_el cI cZ cJ (zq0 b h0 hc he u) (z0 X 22) (z_lay.getD 22 (.inl (0, 0)))) := rfl
set_option maxRecDepth 100000 in
theorem zww_23 : (zww cI cZ h0 hc he u)[zperm.getD 23 0]? = some (zq0 b h0 hc he u 23, z_el cI cZ cJ (zq0 b h0 hc he u) (z0 X 23) (z_lay.getD 23 (.inl (0, 0)))) := rfl
set_option maxRecDepth 100000 in
theorem zww_24 : (zww cI cZ h0 hc he u)[zperm.getD 24 0]? = some (zq0 b h0 hc he u 24, z_el cI cZ cJ (zq0 b h0 hc he u) (z0 X 24) (z_lay.getD 24 (.inl (0, 0)))) := rfl
set_option maxRecDepth 100000 in
theorem zww_25 : (zww cI cZ h0 hc he u)[zperm.getD 25 0]? = some (zq0 b h0 hc he u 25, z_el cI cZ cJ (zq0 b h0 hc he u) (z0 X 25) (z_lay.getD 25 (.inl (0, 0)))) := rfl
set_option maxRecDepth 100000 in
theorem zww_26 : (zww cI cZ h0 hc he u)[zperm.getD 26 0]? = some (zq0 b h0 hc he u 26, z_el cI cZ cJ (zq0 b h0 hc he u) (z0 X 26) (z_lay.getD 26 (.inl (0, 0)))) := rfl
set_option maxRecDepth 100000 in
theorem zww_27 : (zww cI cZ h0 hc he u)[zperm.getD 27 0]? = some (zq0 b h0 hc he u 27, z_el cI cZ cJ (zq0 b h0 hc he u) (z0 X 27) (z_lay.getD 27 (.inl (0, 0)))) := rfl
set_option maxRecDepth 100000 in
theorem zww_28 : (zww cI cZ h0 hc he u)[zperm.getD 28 0]? = some (zq0 b h0 hc he u 28, z_el cI cZ cJ (zq0 b h0 hc he u) (z0 X 28) (z_lay.getD 28 (.inl (0, 0)))) := rfl
set_option maxRecDepth 100000 in
theorem zww_29 : (zww cI cZ h0 hc he u)[zperm.getD 29 0]? = some (zq0 b h0 hc he u 29, z_el cI cZ cJ (zq0 b h0 hc he u) (z0 X 29) (z_lay.getD 29 (.inl (0, 0)))) := rfl
set_option maxRecDepth 100000 in
theorem zww_30 : (zww cI cZ h0 hc he u)[zperm.getD 30 0]? = some (zq0 b h0 hc he u 30, z_el cI cZ cJ (zq0 b h0 hc he u) (z0 X 30) (z_lay.getD 30 (.inl (0, 0)))) := rfl
set_option maxRecDepth 100000 in
theorem zww_31 : (zww cI cZ h0 hc he u)[zperm.getD 31 0]? = some (zq0 b h0 hc he u 31, z_el cI cZ cJ (zq0 b h0 hc he u) (z0 X 31) (z_lay.getD 31 (.inl (0, 0)))) := rfl
set_option maxRecDepth 100000 in
theorem zww_32 : (zww cI cZ h0 hc he u)[zperm.getD 32 0]? = some (zq0 b h0 hc he u 32, z_el cI cZ cJ (zq0 b h0 hc he u) (z0 X 32) (z_lay.getD 32 (.inl (0, 0)))) := rfl
set_option maxRecDepth 100000 in
theorem zww_33 : (zww cI cZ h0 hc he u)[zperm.getD 33 0]? = some (zq0 b h0 hc he u 33, z_el cI cZ cJ (zq0 b h0 hc he u) (z0 X 33) (z_lay.getD 33 (.inl (0, 0)))) := rfl
set_option maxRecDepth 100000 in
theorem zww_34 : (zww cI cZ h0 hc he u)[zperm.getD 34 0]? = some (zq0 b h0 hc he u 34, z_el cI cZ cJ (zq0 b h0 hc he u) (z0 X 34) (z_lay.getD 34 (.inl (0, 0)))) := rfl
set_option maxRecDepth 100000 in
theorem zww_35 : (zww cI cZ h0 hc he u)[zperm.getD 35 0]? = some (zq0 b h0 hc he u 35, z_el cI cZ cJ (zq0 b h0 hc he u) (z0 X 35) (z_lay.getD 35 (.inl (0, 0)))) := rfl
set_option maxRecDepth 100000 in
theorem zww_36 : (zww cI cZ h0 hc he u)[zperm.getD 36 0]? = some (zq0 b h0 hc he u 36, z_el cI cZ cJ (zq0 b h0 hc he u) (z0 X 36) (z_lay.getD 36 (.inl (0, 0)))) := rfl
set_option maxRecDepth 100000 in
theorem zww_37 : (zww cI cZ h0 hc he u)[zperm.getD 37 0]? = some (zq0 b h0 hc he u 37, z_el cI cZ cJ (zq0 b h0 hc he u) (z0 X 37) (z_lay.getD 37 (.inl (0, 0)))) := rfl
set_option maxRecDepth 100000 in
theorem zww_38 : (zww cI cZ h0 hc he u)[zperm.getD 38 0]? = some (zq0 b h0 hc he u 38, z_el cI cZ cJ (zq0 b h0 hc he u) (z0 X 38) (z_lay.getD 38 (.inl (0, 0)))) := rfl
set_option maxRecDepth 100000 in
theorem zww_39 : (zww cI cZ h0 hc he u)[zperm.getD 39 0]? = some (zq0 b h0 hc he u 39, z_el cI cZ cJ (zq0 b h0 hc he u) (z0 X 39) (z_lay.getD 39 (.inl (0, 0)))) := rfl
set_option maxRecDepth 100000 in
theorem zww_40 : (zww cI cZ h0 hc he u)[zperm.getD 40 0]? = some (zq0 b h0 hc he u 40, z_el cI cZ cJ (zq0 b h0 hc he u) (z0 X 40) (z_lay.getD 40 (.inl (0, 0)))) := rfl
set_option maxRecDepth 100000 in
theorem zww_41 : (zww cI cZ h0 hc he u)[zperm.getD 41 0]? = some (zq0 b h0 hc he u 41, z_el cI cZ cJ (zq0 b h0 hc he u) (z0 X 41) (z_lay.getD 41 (.inl (0, 0)))) := rfl
set_option maxRecDepth 100000 in
theorem zww_42 : (zww cI cZ h0 hc he u)[zperm.getD 42 0]? = some (zq0 b h0 hc he u 42, z_el cI cZ cJ (zq0 b h0 hc he u) (z0 X 42) (z_lay.getD 42 (.inl (0, 0)))) := rfl
set_option maxRecDepth 100000 in
theorem zww_43 : (zww cI cZ h0 hc he u)[zperm.getD 43 0]? = some (zq0 b h0 hc he u 43, z_el cI cZ cJ (zq0 b h0 hc he u) (z0 X 43) (z_lay.getD 43 (.inl (0, 0)))) := rfl
set_option maxRecDepth 100000 in
theorem zww_44 : (zww cI cZ h0 hc he u)[zperm.getD 44 0]? = some (zq0 b h0 hc he u 44, z_el cI cZ cJ (zq0 b h0 hc he u) (z0 X 44) (z_lay.getD 44 (.inl (0, 0)))) := rfl
set_option maxRecDepth 100000 in
theorem zww_45 : (zww cI cZ h0 hc he u)[zperm.getD 45 0]? = some (zq0 b h0 hc he u 45, z_el cI cZ cJ (zq0 b h0 hc he u) (z0 X 45) (z_lay.getD 45 (.inl (0, 0)))) := rfl
set_option maxRecDepth 100000 in
theorem zww_46 : (zww cI cZ h0 hc he u)[zperm.getD 46 0]? = some (zq0 b h0 hc he u 46, z_el cI cZ cJ (zq0 b h0 hc he u) (z0 X 46) (z_lay.getD 46 (.inl (0, 0)))) := rfl
set_option maxRecDepth 100000 in
theorem zww_47 : (zww cI cZ h0 hc he u)[zperm.getD 47 0]? = some (zq0 b h0 hc he u 47, z_el cI cZ cJ (zq0 b h0 hc he u) (z0 X 47) (z_lay.getD 47 (.inl (0, 0)))) := rfl
set_option maxRecDepth 100000 in
theorem zww_48 : (zww cI cZ h0 hc he u)[zperm.getD 48 0]? = some (zq0 b h0 hc he u 48, z_el cI cZ cJ (zq0 b h0 hc he u) (z0 X 48) (z_lay.getD 48 (.inl (0, 0)))) := rfl
set_option maxRecDepth 100000 in
theorem zww_49 : (zww cI cZ h0 hc he u)[zperm.getD 49 0]? = some (zq0 b h0 hc he u 49, z_el cI cZ cJ (zq0 b h0 hc he u) (z0 X 49) (z_lay.getD 49 (.inl (0, 0)))) := rfl
set_option maxRecDepth 100000 in
theorem zww_50 : (zww cI cZ h0 hc he u)[zperm.getD 50 0]? = some (zq0 b h0 hc he u 50, z_el cI cZ cJ (zq0 b h0 hc he u) (z0 X 50) (z_lay.getD 50 (.inl (0, 0)))) := rfl
set_option maxRecDepth 100000 in
theorem zww_51 : (zww cI cZ h0 hc he u)[zperm.getD 51 0]? = some (zq0 b h0 hc he u 51, z_el cI cZ cJ (zq0 b h0 hc he u) (z0 X 51) (z_lay.getD 51 (.inl (0, 0)))) := rfl
set_option maxRecDepth 100000 in
theorem zww_52 : (zww cI cZ h0 hc he u)[zperm.getD 52 0]? = some (zq0 b h0 hc he u 52, z_el cI cZ cJ (zq0 b h0 hc he u) (z0 X 52) (z_lay.getD 52 (.inl (0, 0)))) := rfl
set_option maxRecDepth 100000 in
theorem zww_53 : (zww cI cZ h0 hc he u)[zperm.getD 53 0]? = some (zq0 b h0 hc he u 53, z_el cI cZ cJ (zq0 b h0 hc he u) (z0 X 53) (z_lay.getD 53 (.inl (0, 0)))) := rfl
set_option maxRecDepth 100000 in
theorem zww_54 : (zww cI cZ h0 hc he u)[zperm.getD 54 0]? = some (zq0 b h0 hc he u 54, z_el cI cZ cJ (zq0 b h0 hc he u) (z0 X 54) (z_lay.getD 54 (.inl (0, 0)))) := rfl
set_option maxRecDepth 100000 in
theorem zww_55 : (zww cI cZ h0 hc he u)[zperm.getD 55 0]? = some (zq0 b h0 hc he u 55, z_el cI cZ cJ (zq0 b h0 hc he u) (z0 X 55) (z_lay.getD 55 (.inl (0, 0)))) := rfl
set_option maxRecDepth 100000 in
theorem zww_56 : (zww cI cZ h0 hc he u)[zperm.getD 56 0]? = some (zq0 b h0 hc he u 56, z_el cI cZ cJ (zq0 b h0 hc he u) (z0 X 56) (z_lay.getD 56 (.inl (0, 0)))) := rfl
set_option maxRecDepth 100000 in
theorem zww_57 : (zww cI cZ h0 hc he u)[zperm.getD 57 0]? = some (zq0 b h0 hc he u 57, z_el cI cZ cJ (zq0 b h0 hc he u) (z0 X 57) (z_lay.getD 57 (.inl (0, 0)))) := rfl
set_option maxRecDepth 100000 in
theorem zww_58 : (zww cI cZ h0 hc he u)[zperm.getD 58 0]? = some (zq0 b h0 hc he u 58, z_el cI cZ cJ (zq0 b h0 hc he u) (z0 X 58) (z_lay.getD 58 (.inl (0, 0)))) := rfl
set_option maxRecDepth 100000 in
theorem zww_59 : (zww cI cZ h0 hc he u)[zperm.getD 59 0]? = some (zq0 b h0 hc he u 59, z_el cI cZ cJ (zq0 b h0 hc he u) (z0 X 59) (z_lay.getD 59 (.inl (0, 0)))) := rfl
set_option maxRecDepth 100000 in
theorem zww_60 : (zww cI cZ h0 hc he u)[zperm.getD 60 0]? = some (zq0 b h0 hc he u 60, z_el cI cZ cJ (zq0 b h0 hc he u) (z0 X 60) (z_lay.getD 60 (.inl (0, 0)))) := rfl
set_option maxRecDepth 100000 in
theorem zww_61 : (zww cI cZ h0 hc he u)[zperm.getD 61 0]? = some (zq0 b h0 hc he u 61, z_el cI cZ cJ (zq0 b h0 hc he u) (z0 X 61) (z_lay.getD 61 (.inl (0, 0)))) := rfl
set_option maxRecDepth 100000 in
theorem zww_62 : (zww cI cZ h0 hc he u)[zperm.getD 62 0]? = some (zq0 b h0 hc he u 62, z_el cI cZ cJ (zq0 b h0 hc he u) (z0 X 62) (z_lay.getD 62 (.inl (0, 0)))) := rfl
set_option maxRecDepth 100000 in
theorem zww_63 : (zww cI cZ h0 hc he u)[zperm.getD 63 0]? = some (zq0 b h0 hc he u 63, z_el cI cZ cJ (zq0 b h0 hc he u) (z0 X 63) (z_lay.getD 63 (.inl (0, 0)))) := rfl
set_option maxRecDepth 100000 in
theorem zww_64 : (zww cI cZ h0 hc he u)[zperm.getD 64 0]? = some (zq0 b h0 hc he u 64, z_el cI cZ cJ (zq0 b h0 hc he u) (z0 X 64) (z_lay.getD 64 (.inl (0, 0)))) := rfl
set_option maxRecDepth 100000 in
theorem zww_65 : (zww cI cZ h0 hc he u)[zperm.getD 65 0]? = some (zq0 b h0 hc he u 65, z_el cI cZ cJ (zq0 b h0 hc he u) (z0 X 65) (z_lay.getD 65 (.inl (0, 0)))) := rfl
set_option maxRecDepth 100000 in
theorem zww_66 : (zww cI cZ h0 hc he u)[zperm.getD 66 0]? = some (zq0 b h0 hc he u 66, z_el cI cZ cJ (zq0 b h0 hc he u) (z0 X 66) (z_lay.getD 66 (.inl (0, 0)))) := rfl
set_option maxRecDepth 100000 in
theorem zww_67 : (zww cI cZ h0 hc he u)[zperm.getD 67 0]? = some (zq0 b h0 hc he u 67, z_el cI cZ cJ (zq0 b h0 hc he u) (z0 X 67) (z_lay.getD 67 (.inl (0, 0)))) := rfl
set_option maxRecDepth 100000 in
theorem zww_68 : (zww cI cZ h0 hc he u)[zperm.getD 68 0]? = some (zq0 b h0 hc he u 68, z_el cI cZ cJ (zq0 b h0 hc he u) (z0 X 68) (z_lay.getD 68 (.inl (0, 0)))) := rfl
set_option maxRecDepth 100000 in
theorem zww_69 : (zww cI cZ h0 hc he u)[zperm.getD 69 0]? = some (zq0 b h0 hc he u 69, z_el cI cZ cJ (zq0 b h0 hc he u) (z0 X 69) (z_lay.getD 69 (.inl (0, 0)))) := rfl
set_option maxRecDepth 100000 in
theorem zww_70 : (zww cI cZ h0 hc he u)[zperm.getD 70 0]? = some (zq0 b h0 hc he u 70, z_el cI cZ cJ (zq0 b h0 hc he u) (z0 X 70) (z_lay.getD 70 (.inl (0, 0)))) := rfl
set_option maxRecDepth 100000 in
theorem zww_71 : (zww cI cZ h0 hc he u)[zperm.getD 71 0]? = some (zq0 b h0 hc he u 71, z_el cI cZ cJ (zq0 b h0 hc he u) (z0 X 71) (z_lay.getD 71 (.inl (0, 0)))) := rfl
set_option maxRecDepth 100000 in
theorem zww_72 : (zww cI cZ h0 hc he u)[zperm.getD 72 0]? = some (zq0 b h0 hc he u 72, z_el cI cZ cJ (zq0 b h0 hc he u) (z0 X 72) (z_lay.getD 72 (.inl (0, 0)))) := rfl
set_option maxRecDepth 100000 in
theorem zww_73 : (zww cI cZ h0 hc he u)[zperm.getD 73 0]? = some (zq0 b h0 hc he u 73, z_el cI cZ cJ (zq0 b h0 hc he u) (z0 X 73) (z_lay.getD 73 (.inl (0, 0)))) := rfl
set_option maxRecDepth 100000 in
theorem zww_74 : (zww cI cZ h0 hc he u)[zperm.getD 74 0]? = some (zq0 b h0 hc he u 74, z_el cI cZ cJ (zq0 b h0 hc he u) (z0 X 74) (z_lay.getD 74 (.inl (0, 0)))) := rfl
set_option maxRecDepth 100000 in
theorem zww_75 : (zww cI cZ h0 hc he u)[zperm.getD 75 0]? = some (zq0 b h0 hc he u 75, z_el cI cZ cJ (zq0 b h0 hc he u) (z0 X 75) (z_lay.getD 75 (.inl (0, 0)))) := rfl
set_option maxRecDepth 100000 in
theorem zww_76 : (zww cI cZ h0 hc he u)[zperm.getD 76 0]? = some (zq0 b h0 hc he u 76, z_el cI cZ cJ (zq0 b h0 hc he u) (z0 X 76) (z_lay.getD 76 (.inl (0, 0)))) := rfl
set_option maxRecDepth 100000 in
theorem zww_77 : (zww cI cZ h0 hc he u)[zperm.getD 77 0]? = some (zq0 b h0 hc he u 77, z_el cI cZ cJ (zq0 b h0 hc he u) (z0 X 77) (z_lay.getD 77 (.inl (0, 0)))) := rfl
set_option maxRecDepth 100000 in
theorem zww_78 : (zww cI cZ h0 hc he u)[zperm.getD 78 0]? = some (zq0 b h0 hc he u 78, z_el cI cZ cJ (zq0 b h0 hc he u) (z0 X 78) (z_lay.getD 78 (.inl (0, 0)))) := rfl
set_option maxRecDepth 100000 in
theorem zww_79 : (zww cI cZ h0 hc he u)[zperm.getD 79 0]? = some (zq0 b h0 hc he u 79, z_el cI cZ cJ (zq0 b h0 hc he u) (z0 X 79) (z_lay.getD 79 (.inl (0, 0)))) := rfl
set_option maxRecDepth 100000 in
theorem zww_80 : (zww cI cZ h0 hc he u)[zperm.getD 80 0]? = some (zq0 b h0 hc he u 80, z_el cI cZ cJ (zq0 b h0 hc he u) (z0 X 80) (z_lay.getD 80 (.inl (0, 0)))) := rfl
set_option maxRecDepth 100000 in
theorem zww_81 : (zww cI cZ h0 hc he u)[zperm.getD 81 0]? = some (zq0 b h0 hc he u 81, z_el cI cZ cJ (zq0 b h0 hc he u) (z0 X 81) (z_lay.getD 81 (.inl (0, 0)))) := rfl
theorem zww_all : ∀ j, j < 82 → (zww cI cZ h0 hc he u)[zperm.getD j 0]? = some (zq0 b h0 hc he u j, z_el cI cZ cJ (zq0 b h0 hc he u) (z0 X j) (z_lay.getD j (.inl (0, 0)))) := by
  intro j hj
  match j, hj with
  | 0, _ => exact zww_0
  | 1, _ => exact zww_1
  | 2, _ => exact zww_2
  | 3, _ => exact zww_3
  | 4, _ => exact zww_4
  | 5, _ => exact zww_5
  | 6, _ => exact zww_6
  | 7, _ => exact zww_7
  | 8, _ => exact zww_8
  | 9, _ => exact zww_9
  | 10, _ => exact zww_10
  | 11, _ => exact zww_11
  | 12, _ => exact zww_12
  | 13, _ => exact zww_13
  | 14, _ => exact zww_14
  | 15, _ => exact zww_15
  | 16, _ => exact zww_16
  | 17, _ => exact zww_17
  | 18, _ => exact zww_18
  | 19, _ => exact zww_19
  | 20, _ => exact zww_20
  | 21, _ => exact zww_21
  | 22, _ => exact zww_22
  | 23, _ => exact zww_23
  | 24, _ => exact zww_24
  | 25, _ => exact zww_25
  | 26, _ => exact zww_26
  | 27, _ => exact zww_27
  | 28, _ => exact zww_28
  | 29, _ => exact zww_29
  | 30, _ => exact zww_30
  | 31, _ => exact zww_31
  | 32, _ => exact zww_32
  | 33, _ => exact zww_33
  | 34, _ => exact zww_34
  | 35, _ => exact zww_35
  | 36, _ => exact zww_36
  | 37, _ => exact zww_37
  | 38, _ => exact zww_38
  | 39, _ => exact zww_39
  | 40, _ => exact zww_40
  | 41, _ => exact zww_41
  | 42, _ => exact zww_42
  | 43, _ => exact zww_43
  | 44, _ => exact zww_44
  | 45, _ => exact zww_45
  | 46, _ => exact zww_46
  | 47, _ => exact zww_47
  | 48, _ => exact zww_48
  | 49, _ => exact zww_49
  | 50, _ => exact zww_50
  | 51, _ => exact zww_51
  | 52, _ => exact zww_52
  | 53, _ => exact zww_53
  | 54, _ => exact zww_54
  | 55, _ => exact zww_55
  | 56, _ => exact zww_56
  | 57, _ => exact zww_57
  | 58, _ => exact zww_58
  | 59, _ => exact zww_59
  | 60, _ => exact zww_60
  | 61, _ => exact zww_61
  | 62, _ => exact zww_62
  | 63, _ => exact zww_63
  | 64, _ => exact zww_64
  | 65, _ => exact zww_65
  | 66, _ => exact zww_66
  | 67, _ => exact zww_67
  | 68, _ => exact zww_68
  | 69, _ => exact zww_69
  | 70, _ => exact zww_70
  | 71, _ => exact zww_71
  | 72, _ => exact zww_72
  | 73, _ => exact zww_73
  | 74, _ => exact zww_74
  | 75, _ => exact zww_75
  | 76, _ => exact zww_76
  | 77, _ => exact zww_77
  | 78, _ => exact zww_78
  | 79, _ => exact zww_79
  | 80, _ => exact zww_80
  | 81, _ => exact zww_81
  | n + 82, h => exact absurd h (by omega)
theorem zww_P {dC : Nat → ClassId} {dI : Nat → Nat → Nat} {H : Heap} (hP : va_P (dC, dI) vwCl (zww cI cZ h0 hc he u) H) : va_P (dC, dI) vwCl (z_W cI cZ cJ (zq0 b h0 hc he u) (z0 X)) H := by
  intro k q hq
  have hk : k < 82 := by
    have := (List.getElem?_eq_some_iff.mp hq).1
    simpa [z_W, zlay_len] using this
  have e1 := zww_all (cI := cI) (cZ := cZ) (cJ := cJ) (b := b) (h0 := h0) (hc := hc) (he := he) (u := u) (X := X) k hk
  have e2 : (z_W cI cZ cJ (zq0 b h0 hc he u) (z0 X))[k]? = some (zq0 b h0 hc he u k, z_el cI cZ cJ (zq0 b h0 hc he u) (z0 X k) (z_lay.getD k (.inl (0, 0)))) := by
    rw [z_W, List.getElem?_map, List.getElem?_range (by rw [zlay_len]; exact hk), Option.map_some]
  rw [e2] at hq
  cases hq
  exact hP _ _ e1
theorem zww_A {A : Nat → Prop} (hD : va_D A (zww cI cZ h0 hc he u)) (hb : ¬ A b) : z_Ap (zq0 b h0 hc he u) A := by
  refine ⟨fun i j hi hj h => ?_, fun j hj => ?_, hb⟩
  · rw [zlay_len] at hi hj
    exact zperm_inj i hi j hj (hD.1 _ _ _ _ (zww_all (cJ := cI) (b := b) (X := fun _ => 0) i hi) (zww_all (cJ := cI) (b := b) (X := fun _ => 0) j hj) h)
  · rw [zlay_len] at hj
    exact hD.2 _ _ (zww_all (cJ := cI) (b := b) (X := fun _ => 0) j hj)
end ZW3
