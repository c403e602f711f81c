/-! a constructor's loop that fills two arrays -/
section ZK
variable {p : Program} {l : Launch} {e : Env} {R : Room} {s : State} {m : MethodId} {args : Array Value} {below : List Frame} {meth : Method} {c : Code} {H : Heap} {locs : List Loc} {cells slots : Nat} {Q : State → Prop} {cc : ByteArray} {pc pv pw : Nat} {ls : Array Slot} {rest : List Value} {dC : Nat → ClassId} {dI : Nat → Nat → Nat} {A : Nat → Prop} {tys : List (ClassId × FieldType)} {cI cZ : ClassId}
theorem zk_fill2 (wf : (Nat → Int32) → (Nat → Int32) → va_W) {own C : String} {T : u_T} {NF ci ix kf ix2 kf2 h0 qa qb a b N kI nL hd pb pe : Nat} {off1 off2 : Int} {fs : List Value} {v v2 : Int32} (hx : p.tables.exec = Jvm.exec) (hb : c.code = cc) (hts : ∀ w ∈ z_T, w.before args s = true) (hown : s.vm.findClass own = some m.cls) (hK : va_K (dC, dI) vwCl tys s) (hI : tys[kI]? = some (cI, .int)) (he : ∀ f g, (wf f g)[0]? = some (h0, .inr (ci, fs))) (hc : vwCl[ci]? = some (C, T, NF)) (hkf : kf < NF) (hlink : Cond.fieldLink own ix own (T kf).2.1 (T kf).2.2.1 ∈ z_T) (hdecl : (T kf).1 = own) (hv : fs[kf]? = some (.ref a)) (hkf2 : kf2 < NF) (hlink2 : Cond.fieldLink own ix2 own (T kf2).2.1 (T kf2).2.2.1 ∈ z_T) (hdecl2 : (T kf2).1 = own) (hv2 : fs[kf2]? = some (.ref b))
    (ha : ∀ f g, (wf f g)[qa]? = some (a, .inl (cI, N, .inl f))) (hb2 : ∀ f g, (wf f g)[qb]? = some (b, .inl (cI, N, .inl g))) (hsa : ∀ f g f2, (wf f g).set qa (a, .inl (cI, N, .inl f2)) = wf f2 g) (hsb : ∀ f g g2, (wf f g).set qb (b, .inl (cI, N, .inl g2)) = wf f g2) (hN : N ≤ 10000) (hnL : 1 < nL)
    (B : zk_ps cc (hd + 1) (Int32.ofNat N) pb)
    (d0 : decode cc hd = .ok (.iload_n 1, 1)) (d1 : decode cc pb = .ok (.if_icmp .ge off1, 3)) (t1 : (pb : Int) + off1 = (pe : Int)) (e0 : decode cc (pb + 3) = .ok (.aload_n 0, 1)) (e1 : decode cc (pb + 3 + 1) = .ok (.getfield ix, 3)) (e2 : decode cc (pb + 3 + 4) = .ok (.iload_n 1, 1)) (e3 : zk_ps cc (pb + 3 + 5) v pv) (e4 : decode cc pv = .ok (.iastore, 1))
    (f0 : decode cc (pv + 1) = .ok (.aload_n 0, 1)) (f1 : decode cc (pv + 1 + 1) = .ok (.getfield ix2, 3)) (f2 : decode cc (pv + 1 + 4) = .ok (.iload_n 1, 1)) (f3 : zk_ps cc (pv + 1 + 5) v2 pw) (f4 : decode cc pw = .ok (.iastore, 1))
    (e5 : decode cc (pw + 1) = .ok (.iinc 1 1, 3)) (e6 : decode cc (pw + 1 + 3) = .ok (.goto off2, 3)) (t2 : ((pw + 1 + 3 : Nat) : Int) + off2 = (hd : Int))
    (kk : ∀ (H : Heap) (locs : List Loc) (ls : Array Slot), lv_has ls nL [(1, .int (Int32.ofNat N)), (0, .ref h0)] → va_P (dC, dI) vwCl (wf (zkf N v) (zkf N v2)) H → va_D A (wf (zkf N v) (zkf N v2)) → va_S A s.heap H locs → W p l e R s m args below meth c H locs cells slots Q (F0 m pe ls rest)) :
    ∀ (d k : Nat), N = k + d → ∀ (H : Heap) (locs : List Loc) (ls : Array Slot), lv_has ls nL [(1, .int (Int32.ofNat k)), (0, .ref h0)] → va_P (dC, dI) vwCl (wf (zkf k v) (zkf k v2)) H → va_D A (wf (zkf k v) (zkf k v2)) → va_S A s.heap H locs → W p l e R s m args below meth c H locs cells slots Q (F0 m hd ls rest) := by
  intro d
  induction d with
  | zero =>
    intro k hk H locs ls hl hP hD hS
    have hk' : k = N := by omega
    subst hk'
    refine lv_iload_n hx hb d0 rfl (lv_at hl 0 rfl) ?_
    refine zk_push hx hb B ?_
    refine lv_icmp_ge hx hb d1 t1 (fun _ => kk H locs ls hl hP hD hS) (fun h => absurd (by rw [zk_le]; exact Int.le_refl _) h)
  | succ d ih =>
    intro k hk H locs ls hl hP hD hS
    refine lv_iload_n hx hb d0 rfl (lv_at hl 0 rfl) ?_
    refine zk_push hx hb B ?_
    refine lv_icmp_ge hx hb d1 t1 (fun h => ?_) (fun _ => ?_)
    · exfalso
      rw [zk_le, zk_ti _ (by omega), zk_ti _ (by omega)] at h
      omega
    · refine zk_st hx hb hts hown hK hI hP hD hS (he _ _) hc hkf hlink hdecl hv (ha _ _) (by omega) hN (lv_at hl 1 rfl) (lv_at hl 0 rfl) e0 e1 e2 e3 e4 (fun H1 locs1 hP1 hD1 hS1 => ?_)
      rw [hsa, zkf_s] at hP1 hD1
      refine zk_st hx hb hts hown hK hI hP1 hD1 hS1 (he _ _) hc hkf2 hlink2 hdecl2 hv2 (hb2 _ _) (by omega) hN (lv_at hl 1 rfl) (lv_at hl 0 rfl) f0 f1 f2 f3 f4 (fun H1 locs1 hP1 hD1 hS1 => ?_)
      rw [hsb, zkf_s] at hP1 hD1
      refine lv_iinc hx hb e5 hl (k := 0) rfl (v := Int32.ofNat (k + 1)) (by rw [kc_1, zk_add]) hnL rfl (fun ls' hl' => ?_)
      refine lv_goto hx hb e6 t2 ?_
      exact ih (k + 1) (by omega) H1 locs1 ls' hl' hP1 hD1 hS1
end ZK
def zw1 (cI cZ : ClassId) (h0 : Nat) (u : Nat → Nat) : va_W := [(h0, .inr (1, [.ref (u 0), .ref (u 1), .ref (u 2), .ref (u 3)])), (u 0, .inl (cI, 6, .inl (zkf 6 (-1)))), (u 1, .inl (cI, 6, .inl fun _ => 0)), (u 2, .inl (cI, 6, .inl (zkf 6 100))), (u 3, .inl (cI, 6, .inl fun _ => 0))]
def zk_ws1 : List Cond := .code yX1_init cX1_init 2 none :: z_T
set_option maxHeartbeats 4000000 in
set_option maxRecDepth 100000 in
theorem zc1 (l : Launch) (dC : Nat → ClassId) (dI : Nat → Nat → Nat) (cI cZ : ClassId) (h0 sz : Nat) : Met l yX1_init zk_ws1 ({ frames := 1, cells := 4, slots := 24, locals := 12 }) (va_Pc [.ref h0] (fun U => U.heap.size = sz ∧ va_P (dC, dI) vwCl [(h0, .inr (1, [.null, .null, .null, .null]))] U.heap ∧ va_K (dC, dI) vwCl [(cI, .int), (cZ, .boolean)] U ∧ va_D (fun _ => True) [(h0, .inr (1, [.null, .null, .null, .null]))])) (va_Qv (fun _ : Nat → Nat => True) (fun u t => va_P (dC, dI) vwCl (zw1 cI cZ h0 u) t.heap ∧ va_K (dC, dI) vwCl [(cI, .int), (cZ, .boolean)] t ∧ va_D (va_A [(h0, .inr (1, [.null, .null, .null, .null]))] sz) (zw1 cI cZ h0 u)) (va_A [(h0, .inr (1, [.null, .null, .null, .null]))] sz)) 4 24 (va_A [(h0, .inr (1, [.null, .null, .null, .null]))] sz) := by
  refine Met.ofW (cc := cX1_init) (maxL := 2) (ret := none) (by decide) rfl ?_
  intro p e s m args below meth c s₁ B hml hv
  obtain ⟨rfl, hsz, hP, hK, hD0⟩ := hv
  have hx := B.exec
  have hb := B.bytes
  have hr := B.returns
  have hts := atoms_spec (ws := zk_ws1) B.pre
  have htT : ∀ w ∈ z_T, w.before #[Value.ref h0] s = true := fun w hw => hts w (List.mem_cons_of_mem _ hw)
  have hown : s.vm.findClass RX1 = some m.cls := findClass_of_methodNamed B.named
  have hin : meth.name = "<init>" := (name_of_methodNamed B.named B.method).1
  subst hsz
  have hD := hD0.self (sz := s.heap.size)
  generalize hAe : va_A [(h0, .inr (1, [.null, .null, .null, .null]))] s.heap.size = A at hD ⊢
  have hA : ∀ q : Nat, s.heap.size ≤ q → A q := fun q h => by rw [← hAe]; exact Or.inr h
  have hS : va_S A s.heap s.heap [] := va_S.rf
  have hl := lv_entry ([.ref h0]) (n := 2) (Nat.le_of_ble_eq_true rfl)
  rw [lg_entry_eq]
  generalize (lg_sl ([.ref h0]) ++ List.replicate (2 - (lg_sl ([.ref h0])).length) Slot.unset).toArray = ls at hl ⊢
  have hl : lv_has ls 2 [(0, .ref h0)] := hl
  refine lv_aload_n hx hb (show decode cX1_init 0 = .ok (.aload_n 0, 1) by decide +kernel) rfl (lv_at hl 0 rfl) ?_
  refine W.objInit hx hb hown (htT (.methodLink RX1 3 objectInit) (z_w_in (k := 97) (by decide +kernel))) (htT (.instanceMethod objectInit) (z_w_in (k := 27) (by decide +kernel))) (htT _ (z_w_in (k := 28) (by decide +kernel))) rfl (by rw [hml]; exact hl.1) rfl (show decode cX1_init 1 = .ok (.invokespecial 3, 3) by decide +kernel) (Nat.le_of_ble_eq_true rfl) (Nat.le_of_ble_eq_true rfl) ?_
  refine W.eq (g2 := F0 m 4 ls []) rfl ?_
  refine lv_aload_n hx hb (show decode cX1_init 4 = .ok (.aload_n 0, 1) by decide +kernel) rfl (lv_at hl 0 rfl) ?_
  refine zk_push (v := 6) (np := 7) hx hb (Or.inr (Or.inl ⟨6, by decide +kernel, by decide, rfl⟩)) ?_
  refine zk_newI (cI := cI) (kI := 0) (N := 6) hx hb (htT _ (z_w_in (k := 66) (by decide +kernel))) hK rfl hP hD hS hA (by decide) (by decide) (by decide) (Nat.le_of_ble_eq_true rfl) (Nat.le_of_ble_eq_true rfl) (show decode cX1_init 7 = .ok (.newarray .int, 2) by decide +kernel) (fun q7 H hP hD hS => ?_)
  have hP : va_P (dC, dI) vwCl [(h0, .inr (1, [.null, .null, .null, .null])), (q7, .inl (cI, 6, .inl fun _ => 0))] H := hP
  have hD : va_D A [(h0, .inr (1, [.null, .null, .null, .null])), (q7, .inl (cI, 6, .inl fun _ => 0))] := hD
  refine zk_put (own := RX1) (ci := 1) (q0 := 0) (ty := tyX1 0) hx hb htT hin hown hK hP hD hS rfl rfl 0 (by decide) (z_w_in (k := 98) (by decide +kernel)) rfl (tyX1_ok 0 (by decide)) rfl rfl (Nat.le_of_ble_eq_true rfl) (show decode cX1_init 9 = .ok (.putfield 9, 3) by decide +kernel) (fun H locs hP hD hS => ?_)
  have hP : va_P (dC, dI) vwCl [(h0, .inr (1, [.ref q7, .null, .null, .null])), (q7, .inl (cI, 6, .inl fun _ => 0))] H := hP
  have hD : va_D A [(h0, .inr (1, [.ref q7, .null, .null, .null])), (q7, .inl (cI, 6, .inl fun _ => 0))] := hD
  refine lv_aload_n hx hb (show decode cX1_init 12 = .ok (.aload_n 0, 1) by decide +kernel) rfl (lv_at hl 0 rfl) ?_
  refine zk_push (v := 6) (np := 15) hx hb (Or.inr (Or.inl ⟨6, by decide +kernel, by decide, rfl⟩)) ?_
  refine zk_newI (cI := cI) (kI := 0) (N := 6) hx hb (htT _ (z_w_in (k := 66) (by decide +kernel))) hK rfl hP hD hS hA (by decide) (by decide) (by decide) (Nat.le_of_ble_eq_true rfl) (Nat.le_of_ble_eq_true rfl) (show decode cX1_init 15 = .ok (.newarray .int, 2) by decide +kernel) (fun q15 H hP hD hS => ?_)
  have hP : va_P (dC, dI) vwCl [(h0, .inr (1, [.ref q7, .null, .null, .null])), (q7, .inl (cI, 6, .inl fun _ => 0)), (q15, .inl (cI, 6, .inl fun _ => 0))] H := hP
  have hD : va_D A [(h0, .inr (1, [.ref q7, .null, .null, .null])), (q7, .inl (cI, 6, .inl fun _ => 0)), (q15, .inl (cI, 6, .inl fun _ => 0))] := hD
  refine zk_put (own := RX1) (ci := 1) (q0 := 0) (ty := tyX1 1) hx hb htT hin hown hK hP hD hS rfl rfl 1 (by decide) (z_w_in (k := 99) (by decide +kernel)) rfl (tyX1_ok 1 (by decide)) rfl rfl (Nat.le_of_ble_eq_true rfl) (show decode cX1_init 17 = .ok (.putfield 15, 3) by decide +kernel) (fun H locs hP hD hS => ?_)
  have hP : va_P (dC, dI) vwCl [(h0, .inr (1, [.ref q7, .ref q15, .null, .null])), (q7, .inl (cI, 6, .inl fun _ => 0)), (q15, .inl (cI, 6, .inl fun _ => 0))] H := hP
  have hD : va_D A [(h0, .inr (1, [.ref q7, .ref q15, .null, .null])), (q7, .inl (cI, 6, .inl fun _ => 0)), (q15, .inl (cI, 6, .inl fun _ => 0))] := hD
  refine lv_aload_n hx hb (show decode cX1_init 20 = .ok (.aload_n 0, 1) by decide +kernel) rfl (lv_at hl 0 rfl) ?_
  refine zk_push (v := 6) (np := 23) hx hb (Or.inr (Or.inl ⟨6, by decide +kernel, by decide, rfl⟩)) ?_
  refine zk_newI (cI := cI) (kI := 0) (N := 6) hx hb (htT _ (z_w_in (k := 66) (by decide +kernel))) hK rfl hP hD hS hA (by decide) (by decide) (by decide) (Nat.le_of_ble_eq_true rfl) (Nat.le_of_ble_eq_true rfl) (show decode cX1_init 23 = .ok (.newarray .int, 2) by decide +kernel) (fun q23 H hP hD hS => ?_)
  have hP : va_P (dC, dI) vwCl [(h0, .inr (1, [.ref q7, .ref q15, .null, .null])), (q7, .inl (cI, 6, .inl fun _ => 0)), (q15, .inl (cI, 6, .inl fun _ => 0)), (q23, .inl (cI, 6, .inl fun _ => 0))] H := hP
  have hD : va_D A [(h0, .inr (1, [.ref q7, .ref q15, .null, .null])), (q7, .inl (cI, 6, .inl fun _ => 0)), (q15, .inl (cI, 6, .inl fun _ => 0)), (q23, .inl (cI, 6, .inl fun _ => 0))] := hD
  refine zk_put (own := RX1) (ci := 1) (q0 := 0) (ty := tyX1 2) hx hb htT hin hown hK hP hD hS rfl rfl 2 (by decide) (z_w_in (k := 100) (by decide +kernel)) rfl (tyX1_ok 2 (by decide)) rfl rfl (Nat.le_of_ble_eq_true rfl) (show decode cX1_init 25 = .ok (.putfield 18, 3) by decide +kernel) (fun H locs hP hD hS => ?_)
  have hP : va_P (dC, dI) vwCl [(h0, .inr (1, [.ref q7, .ref q15, .ref q23, .null])), (q7, .inl (cI, 6, .inl fun _ => 0)), (q15, .inl (cI, 6, .inl fun _ => 0)), (q23, .inl (cI, 6, .inl fun _ => 0))] H := hP
  have hD : va_D A [(h0, .inr (1, [.ref q7, .ref q15, .ref q23, .null])), (q7, .inl (cI, 6, .inl fun _ => 0)), (q15, .inl (cI, 6, .inl fun _ => 0)), (q23, .inl (cI, 6, .inl fun _ => 0))] := hD
  refine lv_aload_n hx hb (show decode cX1_init 28 = .ok (.aload_n 0, 1) by decide +kernel) rfl (lv_at hl 0 rfl) ?_
  refine zk_push (v := 6) (np := 31) hx hb (Or.inr (Or.inl ⟨6, by decide +kernel, by decide, rfl⟩)) ?_
  refine zk_newI (cI := cI) (kI := 0) (N := 6) hx hb (htT _ (z_w_in (k := 66) (by decide +kernel))) hK rfl hP hD hS hA (by decide) (by decide) (by decide) (Nat.le_of_ble_eq_true rfl) (Nat.le_of_ble_eq_true rfl) (show decode cX1_init 31 = .ok (.newarray .int, 2) by decide +kernel) (fun q31 H hP hD hS => ?_)
  have hP : va_P (dC, dI) vwCl [(h0, .inr (1, [.ref q7, .ref q15, .ref q23, .null])), (q7, .inl (cI, 6, .inl fun _ => 0)), (q15, .inl (cI, 6, .inl fun _ => 0)), (q23, .inl (cI, 6, .inl fun _ => 0)), (q31, .inl (cI, 6, .inl fun _ => 0))] H := hP
  have hD : va_D A [(h0, .inr (1, [.ref q7, .ref q15, .ref q23, .null])), (q7, .inl (cI, 6, .inl fun _ => 0)), (q15, .inl (cI, 6, .inl fun _ => 0)), (q23, .inl (cI, 6, .inl fun _ => 0)), (q31, .inl (cI, 6, .inl fun _ => 0))] := hD
  refine zk_put (own := RX1) (ci := 1) (q0 := 0) (ty := tyX1 3) hx hb htT hin hown hK hP hD hS rfl rfl 3 (by decide) (z_w_in (k := 101) (by decide +kernel)) rfl (tyX1_ok 3 (by decide)) rfl rfl (Nat.le_of_ble_eq_true rfl) (show decode cX1_init 33 = .ok (.putfield 21, 3) by decide +kernel) (fun H locs hP hD hS => ?_)
  have hP : va_P (dC, dI) vwCl [(h0, .inr (1, [.ref q7, .ref q15, .ref q23, .ref q31])), (q7, .inl (cI, 6, .inl fun _ => 0)), (q15, .inl (cI, 6, .inl fun _ => 0)), (q23, .inl (cI, 6, .inl fun _ => 0)), (q31, .inl (cI, 6, .inl fun _ => 0))] H := hP
  have hD : va_D A [(h0, .inr (1, [.ref q7, .ref q15, .ref q23, .ref q31])), (q7, .inl (cI, 6, .inl fun _ => 0)), (q15, .inl (cI, 6, .inl fun _ => 0)), (q23, .inl (cI, 6, .inl fun _ => 0)), (q31, .inl (cI, 6, .inl fun _ => 0))] := hD
  refine zk_push (v := 0) (np := 37) hx hb (Or.inl ⟨0, by decide +kernel, by decide, rfl⟩) ?_
  refine lv_istore_n hx hb (show decode cX1_init 37 = .ok (.istore_n 1, 1) by decide +kernel) rfl hl (by decide) rfl (fun ls hl => ?_)
  have hl : lv_has ls 2 [(1, .int (Int32.ofNat 0)), (0, .ref h0)] := hl
  refine zk_fill2 (fun f g => [(h0, .inr (1, [.ref q7, .ref q15, .ref q23, .ref q31])), (q7, .inl (cI, 6, .inl f)), (q15, .inl (cI, 6, .inl fun _ => 0)), (q23, .inl (cI, 6, .inl g)), (q31, .inl (cI, 6, .inl fun _ => 0))]) (own := RX1) (ci := 1) (kf := 0) (kf2 := 2) (qa := 1) (qb := 3) (a := q7) (b := q23) (N := 6) (v := (-1)) (v2 := 100) (h0 := h0) (kI := 0) (cI := cI) (fs := [.ref q7, .ref q15, .ref q23, .ref q31]) (hd := 38) (pb := 41) (pv := 50) (pw := 58) (pe := 65) (nL := 2) hx hb htT hown hK rfl (fun _ _ => rfl) rfl (by decide) (z_w_in (k := 98) (by decide +kernel)) rfl rfl (by decide) (z_w_in (k := 100) (by decide +kernel)) rfl rfl (fun _ _ => rfl) (fun _ _ => rfl) (fun _ _ _ => rfl) (fun _ _ _ => rfl) (by decide) (by decide) (Or.inr (Or.inl ⟨6, by decide +kernel, by decide, rfl⟩)) (show decode cX1_init 38 = .ok (.iload_n 1, 1) by decide +kernel) (show decode cX1_init 41 = .ok (.if_icmp .ge 24, 3) by decide +kernel) (by decide) (show decode cX1_init 44 = .ok (.aload_n 0, 1) by decide +kernel) (show decode cX1_init 45 = .ok (.getfield 9, 3) by decide +kernel) (show decode cX1_init 48 = .ok (.iload_n 1, 1) by decide +kernel) (Or.inl ⟨(-1), by decide +kernel, by decide, rfl⟩) (show decode cX1_init 50 = .ok (.iastore, 1) by decide +kernel) (show decode cX1_init 51 = .ok (.aload_n 0, 1) by decide +kernel) (show decode cX1_init 52 = .ok (.getfield 18, 3) by decide +kernel) (show decode cX1_init 55 = .ok (.iload_n 1, 1) by decide +kernel) (Or.inr (Or.inl ⟨100, by decide +kernel, by decide, rfl⟩)) (show decode cX1_init 58 = .ok (.iastore, 1) by decide +kernel) (show decode cX1_init 59 = .ok (.iinc 1 1, 3) by decide +kernel) (show decode cX1_init 62 = .ok (.goto (-24), 3) by decide +kernel) (by decide) (fun H locs ls hl hP hD hS => ?_) 6 0 rfl H locs ls hl (by rw [zkf_0, zkf_0]; exact hP) (by rw [zkf_0, zkf_0]; exact hD) hS
  have hP : va_P (dC, dI) vwCl [(h0, .inr (1, [.ref q7, .ref q15, .ref q23, .ref q31])), (q7, .inl (cI, 6, .inl (zkf 6 (-1)))), (q15, .inl (cI, 6, .inl fun _ => 0)), (q23, .inl (cI, 6, .inl (zkf 6 100))), (q31, .inl (cI, 6, .inl fun _ => 0))] H := hP
  have hD : va_D A [(h0, .inr (1, [.ref q7, .ref q15, .ref q23, .ref q31])), (q7, .inl (cI, 6, .inl (zkf 6 (-1)))), (q15, .inl (cI, 6, .inl fun _ => 0)), (q23, .inl (cI, 6, .inl (zkf 6 100))), (q31, .inl (cI, 6, .inl fun _ => 0))] := hD
  refine W.widen (k := 4) (n := 24) (Nat.le_of_ble_eq_true rfl) (Nat.le_of_ble_eq_true rfl) ?_
  exact W.vret hx hb hr (fun t ht hW => ⟨⟨(fun j => if j = 0 then q7 else if j = 1 then q15 else if j = 2 then q23 else if j = 3 then q31 else 0), rfl, trivial, by rw [ht]; exact hP, va_K.moved hW.alike hK, hD⟩, hS.F ht⟩) hS.2.2 (show decode cX1_init 65 = .ok (.return_, 1) by decide +kernel)
