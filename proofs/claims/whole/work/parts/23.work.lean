/-! contracts of the constructors without loops and calls -/
def zw9 (cI cZ : ClassId) (h0 : Nat) (u : Nat → Nat) : va_W := [(h0, .inr (9, [.ref (u 0), .ref (u 1), .ref (u 2), .ref (u 3)])), (u 0, .inl (cI, 216, .inl fun _ => 0)), (u 1, .inl (cI, 864, .inl fun _ => 0)), (u 2, .inl (cI, 864, .inl fun _ => 0)), (u 3, .inl (cI, 864, .inl fun _ => 0))]
def zk_ws9 : List Cond := .code yX9_init cX9_init 1 none :: z_T
set_option maxHeartbeats 4000000 in
set_option maxRecDepth 100000 in
theorem zc9 (l : Launch) (dC : Nat → ClassId) (dI : Nat → Nat → Nat) (cI cZ : ClassId) (h0 sz : Nat) : Met l yX9_init zk_ws9 ({ frames := 1, cells := 4, slots := 2808, locals := 12 }) (va_Pc [.ref h0] (fun U => U.heap.size = sz ∧ va_P (dC, dI) vwCl [(h0, .inr (9, [.null, .null, .null, .null]))] U.heap ∧ va_K (dC, dI) vwCl [(cI, .int), (cZ, .boolean)] U ∧ va_D (fun _ => True) [(h0, .inr (9, [.null, .null, .null, .null]))])) (va_Qv (fun _ : Nat → Nat => True) (fun u t => va_P (dC, dI) vwCl (zw9 cI cZ h0 u) t.heap ∧ va_K (dC, dI) vwCl [(cI, .int), (cZ, .boolean)] t ∧ va_D (va_A [(h0, .inr (9, [.null, .null, .null, .null]))] sz) (zw9 cI cZ h0 u)) (va_A [(h0, .inr (9, [.null, .null, .null, .null]))] sz)) 4 2808 (va_A [(h0, .inr (9, [.null, .null, .null, .null]))] sz) := by
  refine Met.ofW (cc := cX9_init) (maxL := 1) (ret := none) (by decide) rfl ?_
  intro p e s m args below meth c s₁ B hml hv
  obtain ⟨rfl, hsz, hP, hK, hD0⟩ := hv
  have hx := B.exec
  have hb := B.bytes
  have hr := B.returns
  have hts := atoms_spec (ws := zk_ws9) B.pre
  have htT : ∀ w ∈ z_T, w.before #[Value.ref h0] s = true := fun w hw => hts w (List.mem_cons_of_mem _ hw)
  have hown : s.vm.findClass RX9 = some m.cls := findClass_of_methodNamed B.named
  have hin : meth.name = "<init>" := (name_of_methodNamed B.named B.method).1
  subst hsz
  have hD := hD0.self (sz := s.heap.size)
  generalize hAe : va_A [(h0, .inr (9, [.null, .null, .null, .null]))] s.heap.size = A at hD ⊢
  have hA : ∀ q : Nat, s.heap.size ≤ q → A q := fun q h => by rw [← hAe]; exact Or.inr h
  have hS : va_S A s.heap s.heap [] := va_S.rf
  have hl := lv_entry ([.ref h0]) (n := 1) (Nat.le_of_ble_eq_true rfl)
  rw [lg_entry_eq]
  generalize (lg_sl ([.ref h0]) ++ List.replicate (1 - (lg_sl ([.ref h0])).length) Slot.unset).toArray = ls at hl ⊢
  have hl : lv_has ls 1 [(0, .ref h0)] := hl
  refine lv_aload_n hx hb (show decode cX9_init 0 = .ok (.aload_n 0, 1) by decide +kernel) rfl (lv_at hl 0 rfl) ?_
  refine W.objInit hx hb hown (htT (.methodLink RX9 3 objectInit) (z_w_in (k := 257) (by decide +kernel))) (htT (.instanceMethod objectInit) (z_w_in (k := 28) (by decide +kernel))) (htT _ (z_w_in (k := 29) (by decide +kernel))) rfl (by rw [hml]; exact hl.1) rfl (show decode cX9_init 1 = .ok (.invokespecial 3, 3) by decide +kernel) (Nat.le_of_ble_eq_true rfl) (Nat.le_of_ble_eq_true rfl) ?_
  refine W.eq (g2 := F0 m 4 ls []) rfl ?_
  refine lv_aload_n hx hb (show decode cX9_init 4 = .ok (.aload_n 0, 1) by decide +kernel) rfl (lv_at hl 0 rfl) ?_
  refine zk_push (v := 216) (np := 8) hx hb (Or.inr (Or.inr ⟨216, by decide +kernel, by decide, rfl⟩)) ?_
  refine zk_newI (cI := cI) (kI := 0) (N := 216) hx hb (htT _ (z_w_in (k := 70) (by decide +kernel))) hK rfl hP hD hS hA (by decide) (by decide) (by decide) (Nat.le_of_ble_eq_true rfl) (Nat.le_of_ble_eq_true rfl) (show decode cX9_init 8 = .ok (.newarray .int, 2) by decide +kernel) (fun q8 H hP hD hS => ?_)
  have hP : va_P (dC, dI) vwCl [(h0, .inr (9, [.null, .null, .null, .null])), (q8, .inl (cI, 216, .inl fun _ => 0))] H := hP
  have hD : va_D A [(h0, .inr (9, [.null, .null, .null, .null])), (q8, .inl (cI, 216, .inl fun _ => 0))] := hD
  refine zk_put (own := RX9) (ci := 9) (q0 := 0) (ty := tyX9 0) hx hb htT hin hown hK hP hD hS rfl rfl 0 (by decide) (z_w_in (k := 258) (by decide +kernel)) rfl (tyX9_ok 0 (by decide)) rfl rfl (by decide) (show decode cX9_init 10 = .ok (.putfield 9, 3) by decide +kernel) (fun H locs hP hD hS => ?_)
  have hP : va_P (dC, dI) vwCl [(h0, .inr (9, [.ref q8, .null, .null, .null])), (q8, .inl (cI, 216, .inl fun _ => 0))] H := hP
  have hD : va_D A [(h0, .inr (9, [.ref q8, .null, .null, .null])), (q8, .inl (cI, 216, .inl fun _ => 0))] := hD
  refine lv_aload_n hx hb (show decode cX9_init 13 = .ok (.aload_n 0, 1) by decide +kernel) rfl (lv_at hl 0 rfl) ?_
  refine zk_push (v := 864) (np := 17) hx hb (Or.inr (Or.inr ⟨864, by decide +kernel, by decide, rfl⟩)) ?_
  refine zk_newI (cI := cI) (kI := 0) (N := 864) hx hb (htT _ (z_w_in (k := 70) (by decide +kernel))) hK rfl hP hD hS hA (by decide) (by decide) (by decide) (Nat.le_of_ble_eq_true rfl) (Nat.le_of_ble_eq_true rfl) (show decode cX9_init 17 = .ok (.newarray .int, 2) by decide +kernel) (fun q17 H hP hD hS => ?_)
  have hP : va_P (dC, dI) vwCl [(h0, .inr (9, [.ref q8, .null, .null, .null])), (q8, .inl (cI, 216, .inl fun _ => 0)), (q17, .inl (cI, 864, .inl fun _ => 0))] H := hP
  have hD : va_D A [(h0, .inr (9, [.ref q8, .null, .null, .null])), (q8, .inl (cI, 216, .inl fun _ => 0)), (q17, .inl (cI, 864, .inl fun _ => 0))] := hD
  refine zk_put (own := RX9) (ci := 9) (q0 := 0) (ty := tyX9 1) hx hb htT hin hown hK hP hD hS rfl rfl 1 (by decide) (z_w_in (k := 259) (by decide +kernel)) rfl (tyX9_ok 1 (by decide)) rfl rfl (by decide) (show decode cX9_init 19 = .ok (.putfield 15, 3) by decide +kernel) (fun H locs hP hD hS => ?_)
  have hP : va_P (dC, dI) vwCl [(h0, .inr (9, [.ref q8, .ref q17, .null, .null])), (q8, .inl (cI, 216, .inl fun _ => 0)), (q17, .inl (cI, 864, .inl fun _ => 0))] H := hP
  have hD : va_D A [(h0, .inr (9, [.ref q8, .ref q17, .null, .null])), (q8, .inl (cI, 216, .inl fun _ => 0)), (q17, .inl (cI, 864, .inl fun _ => 0))] := hD
  refine lv_aload_n hx hb (show decode cX9_init 22 = .ok (.aload_n 0, 1) by decide +kernel) rfl (lv_at hl 0 rfl) ?_
  refine zk_push (v := 864) (np := 26) hx hb (Or.inr (Or.inr ⟨864, by decide +kernel, by decide, rfl⟩)) ?_
  refine zk_newI (cI := cI) (kI := 0) (N := 864) hx hb (htT _ (z_w_in (k := 70) (by decide +kernel))) hK rfl hP hD hS hA (by decide) (by decide) (by decide) (Nat.le_of_ble_eq_true rfl) (Nat.le_of_ble_eq_true rfl) (show decode cX9_init 26 = .ok (.newarray .int, 2) by decide +kernel) (fun q26 H hP hD hS => ?_)
  have hP : va_P (dC, dI) vwCl [(h0, .inr (9, [.ref q8, .ref q17, .null, .null])), (q8, .inl (cI, 216, .inl fun _ => 0)), (q17, .inl (cI, 864, .inl fun _ => 0)), (q26, .inl (cI, 864, .inl fun _ => 0))] H := hP
  have hD : va_D A [(h0, .inr (9, [.ref q8, .ref q17, .null, .null])), (q8, .inl (cI, 216, .inl fun _ => 0)), (q17, .inl (cI, 864, .inl fun _ => 0)), (q26, .inl (cI, 864, .inl fun _ => 0))] := hD
  refine zk_put (own := RX9) (ci := 9) (q0 := 0) (ty := tyX9 2) hx hb htT hin hown hK hP hD hS rfl rfl 2 (by decide) (z_w_in (k := 260) (by decide +kernel)) rfl (tyX9_ok 2 (by decide)) rfl rfl (by decide) (show decode cX9_init 28 = .ok (.putfield 18, 3) by decide +kernel) (fun H locs hP hD hS => ?_)
  have hP : va_P (dC, dI) vwCl [(h0, .inr (9, [.ref q8, .ref q17, .ref q26, .null])), (q8, .inl (cI, 216, .inl fun _ => 0)), (q17, .inl (cI, 864, .inl fun _ => 0)), (q26, .inl (cI, 864, .inl fun _ => 0))] H := hP
  have hD : va_D A [(h0, .inr (9, [.ref q8, .ref q17, .ref q26, .null])), (q8, .inl (cI, 216, .inl fun _ => 0)), (q17, .inl (cI, 864, .inl fun _ => 0)), (q26, .inl (cI, 864, .inl fun _ => 0))] := hD
  refine lv_aload_n hx hb (show decode cX9_init 31 = .ok (.aload_n 0, 1) by decide +kernel) rfl (lv_at hl 0 rfl) ?_
  refine zk_push (v := 864) (np := 35) hx hb (Or.inr (Or.inr ⟨864, by decide +kernel, by decide, rfl⟩)) ?_
  refine zk_newI (cI := cI) (kI := 0) (N := 864) hx hb (htT _ (z_w_in (k := 70) (by decide +kernel))) hK rfl hP hD hS hA (by decide) (by decide) (by decide) (Nat.le_of_ble_eq_true rfl) (Nat.le_of_ble_eq_true rfl) (show decode cX9_init 35 = .ok (.newarray .int, 2) by decide +kernel) (fun q35 H hP hD hS => ?_)
  have hP : va_P (dC, dI) vwCl [(h0, .inr (9, [.ref q8, .ref q17, .ref q26, .null])), (q8, .inl (cI, 216, .inl fun _ => 0)), (q17, .inl (cI, 864, .inl fun _ => 0)), (q26, .inl (cI, 864, .inl fun _ => 0)), (q35, .inl (cI, 864, .inl fun _ => 0))] H := hP
  have hD : va_D A [(h0, .inr (9, [.ref q8, .ref q17, .ref q26, .null])), (q8, .inl (cI, 216, .inl fun _ => 0)), (q17, .inl (cI, 864, .inl fun _ => 0)), (q26, .inl (cI, 864, .inl fun _ => 0)), (q35, .inl (cI, 864, .inl fun _ => 0))] := hD
  refine zk_put (own := RX9) (ci := 9) (q0 := 0) (ty := tyX9 3) hx hb htT hin hown hK hP hD hS rfl rfl 3 (by decide) (z_w_in (k := 261) (by decide +kernel)) rfl (tyX9_ok 3 (by decide)) rfl rfl (by decide) (show decode cX9_init 37 = .ok (.putfield 21, 3) by decide +kernel) (fun H locs hP hD hS => ?_)
  have hP : va_P (dC, dI) vwCl [(h0, .inr (9, [.ref q8, .ref q17, .ref q26, .ref q35])), (q8, .inl (cI, 216, .inl fun _ => 0)), (q17, .inl (cI, 864, .inl fun _ => 0)), (q26, .inl (cI, 864, .inl fun _ => 0)), (q35, .inl (cI, 864, .inl fun _ => 0))] H := hP
  have hD : va_D A [(h0, .inr (9, [.ref q8, .ref q17, .ref q26, .ref q35])), (q8, .inl (cI, 216, .inl fun _ => 0)), (q17, .inl (cI, 864, .inl fun _ => 0)), (q26, .inl (cI, 864, .inl fun _ => 0)), (q35, .inl (cI, 864, .inl fun _ => 0))] := hD
  refine W.widen (k := 4) (n := 2808) (Nat.le_of_ble_eq_true rfl) (Nat.le_of_ble_eq_true rfl) ?_
  exact W.vret hx hb hr (fun t ht hW => ⟨⟨(fun j => if j = 0 then q8 else if j = 1 then q17 else if j = 2 then q26 else if j = 3 then q35 else 0), rfl, trivial, by rw [ht]; exact hP, va_K.moved hW.alike hK, hD⟩, hS.F ht⟩) hS.2.2 (show decode cX9_init 40 = .ok (.return_, 1) by decide +kernel)
