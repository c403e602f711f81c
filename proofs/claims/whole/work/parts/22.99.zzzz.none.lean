/-! the model's noneGiven -/
def zk_wsN : List Cond := .code yX12_noneGiven cX12_noneGiven 2 none :: z_T
set_option maxHeartbeats 4000000 in
set_option maxRecDepth 100000 in
theorem zcN (l : Launch) (dC : Nat → ClassId) (dI : Nat → Nat → Nat) (cI cZ : ClassId) (h0 a b sz : Nat) (fs : List Value) (h7 : fs[7]? = some (.ref a)) (h8 : fs[8]? = some (.ref b)) : Met l yX12_noneGiven zk_wsN ({ frames := 1, cells := 0, slots := 0, locals := 12 }) (va_Pc [.ref h0] (fun U => U.heap.size = sz ∧ va_P (dC, dI) vwCl [(h0, .inr (12, fs)), (a, .inl (cI, 7, .inl fun _ => 0)), (b, .inl (cI, 7, .inl fun _ => 0))] U.heap ∧ va_K (dC, dI) vwCl [(cI, .int), (cZ, .boolean)] U ∧ va_D (fun _ => True) [(h0, .inr (12, fs)), (a, .inl (cI, 7, .inl fun _ => 0)), (b, .inl (cI, 7, .inl fun _ => 0))])) (va_Qv (fun _ : Nat → Nat => True) (fun _ t => va_P (dC, dI) vwCl [(h0, .inr (12, fs)), (a, .inl (cI, 7, .inl (zkf 7 (-1)))), (b, .inl (cI, 7, .inl (zkf 7 (-1))))] t.heap ∧ va_K (dC, dI) vwCl [(cI, .int), (cZ, .boolean)] t ∧ va_D (va_A [(h0, .inr (12, fs)), (a, .inl (cI, 7, .inl fun _ => 0)), (b, .inl (cI, 7, .inl fun _ => 0))] sz) [(h0, .inr (12, fs)), (a, .inl (cI, 7, .inl (zkf 7 (-1)))), (b, .inl (cI, 7, .inl (zkf 7 (-1))))]) (va_A [(h0, .inr (12, fs)), (a, .inl (cI, 7, .inl fun _ => 0)), (b, .inl (cI, 7, .inl fun _ => 0))] sz)) 0 0 (va_A [(h0, .inr (12, fs)), (a, .inl (cI, 7, .inl fun _ => 0)), (b, .inl (cI, 7, .inl fun _ => 0))] sz) := by
  refine Met.ofW (cc := cX12_noneGiven) (maxL := 2) (ret := none) (by decide) rfl ?_
  intro p e s m args below meth c s₁ B hml hv
  obtain ⟨rfl, hsz, hP, hK, hD0⟩ := hv
  have hx := B.exec
  have hb := B.bytes
  have hr := B.returns
  have hts := atoms_spec (ws := zk_wsN) B.pre
  have htT : ∀ w ∈ z_T, w.before #[Value.ref h0] s = true := fun w hw => hts w (List.mem_cons_of_mem _ hw)
  have hown : s.vm.findClass RX12 = some m.cls := findClass_of_methodNamed B.named
  subst hsz
  have hD := hD0.self (sz := s.heap.size)
  generalize hAe : va_A [(h0, .inr (12, fs)), (a, .inl (cI, 7, .inl fun _ => 0)), (b, .inl (cI, 7, .inl fun _ => 0))] s.heap.size = A at hD ⊢
  have hA : ∀ q : Nat, s.heap.size ≤ q → A q := fun q h => by rw [← hAe]; exact Or.inr h
  have hS : va_S A s.heap s.heap [] := va_S.rf
  have hl := lv_entry ([.ref h0]) (n := 2) (Nat.le_of_ble_eq_true rfl)
  rw [lg_entry_eq]
  generalize (lg_sl ([.ref h0]) ++ List.replicate (2 - (lg_sl ([.ref h0])).length) Slot.unset).toArray = ls at hl ⊢
  have hl : lv_has ls 2 [(0, .ref h0)] := hl
  refine zk_push (v := 0) (np := 1) hx hb (Or.inl ⟨0, by decide +kernel, by decide, rfl⟩) ?_
  refine lv_istore_n hx hb (show decode cX12_noneGiven 1 = .ok (.istore_n 1, 1) by decide +kernel) rfl hl (by decide) rfl (fun ls hl => ?_)
  have hl : lv_has ls 2 [(1, .int (Int32.ofNat 0)), (0, .ref h0)] := hl
  refine zk_fill2 (fun f g => [(h0, .inr (12, fs)), (a, .inl (cI, 7, .inl f)), (b, .inl (cI, 7, .inl g))]) (own := RX12) (ci := 12) (kf := 7) (kf2 := 8) (qa := 1) (qb := 2) (a := a) (b := b) (N := 7) (v := (-1)) (v2 := (-1)) (h0 := h0) (kI := 0) (cI := cI) (fs := fs) (hd := 2) (pb := 5) (pv := 14) (pw := 21) (pe := 28) (nL := 2) hx hb htT hown hK rfl (fun _ _ => rfl) rfl (by decide) (z_w_in (k := 1624) (by decide +kernel)) rfl h7 (by decide) (z_w_in (k := 1625) (by decide +kernel)) rfl h8 (fun _ _ => rfl) (fun _ _ => rfl) (fun _ _ _ => rfl) (fun _ _ _ => rfl) (by decide) (by decide) (Or.inr (Or.inl ⟨7, by decide +kernel, by decide, rfl⟩)) (show decode cX12_noneGiven 2 = .ok (.iload_n 1, 1) by decide +kernel) (show decode cX12_noneGiven 5 = .ok (.if_icmp .ge 23, 3) by decide +kernel) (by decide) (show decode cX12_noneGiven 8 = .ok (.aload_n 0, 1) by decide +kernel) (show decode cX12_noneGiven 9 = .ok (.getfield 17, 3) by decide +kernel) (show decode cX12_noneGiven 12 = .ok (.iload_n 1, 1) by decide +kernel) (Or.inl ⟨(-1), by decide +kernel, by decide, rfl⟩) (show decode cX12_noneGiven 14 = .ok (.iastore, 1) by decide +kernel) (show decode cX12_noneGiven 15 = .ok (.aload_n 0, 1) by decide +kernel) (show decode cX12_noneGiven 16 = .ok (.getfield 20, 3) by decide +kernel) (show decode cX12_noneGiven 19 = .ok (.iload_n 1, 1) by decide +kernel) (Or.inl ⟨(-1), by decide +kernel, by decide, rfl⟩) (show decode cX12_noneGiven 21 = .ok (.iastore, 1) by decide +kernel) (show decode cX12_noneGiven 22 = .ok (.iinc 1 1, 3) by decide +kernel) (show decode cX12_noneGiven 25 = .ok (.goto (-23), 3) by decide +kernel) (by decide) (fun H locs ls hl hP hD hS => ?_) 7 0 rfl _ _ ls hl (by rw [zkf_0]; exact hP) (by rw [zkf_0]; exact hD) hS
  exact W.vret hx hb hr (fun t ht hW => ⟨⟨(fun _ => 0), rfl, trivial, by rw [ht]; exact hP, va_K.moved hW.alike hK, hD⟩, hS.F ht⟩) hS.2.2 (show decode cX12_noneGiven 28 = .ok (.return_, 1) by decide +kernel)
