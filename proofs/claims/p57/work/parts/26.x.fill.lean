/-! the constructors' loops: an array is filled with one number -/
def zkf (k : Nat) (v : Int32) : Nat → Int32 := fun j => if j < k then v else 0
theorem zkf_0 (v : Int32) : zkf 0 v = fun _ => 0 := by
  funext j
  exact if_neg (by omega)
theorem zkf_s (k : Nat) (v : Int32) : upd (zkf k v) k v = zkf (k + 1) v := by
  funext j
  rw [upd_r]
  unfold zkf
  by_cases h : j = k
  · rw [if_pos h, if_pos (by omega)]
  · rw [if_neg h]
    by_cases h2 : j < k
    · rw [if_pos h2, if_pos (by omega)]
    · rw [if_neg h2, if_neg (by omega)]
section ZK
variable {p : Program} {l : Launch} {e : Env} {R : Room} {s : State} {m : MethodId} {args : Array Value} {below : List Frame} {meth : Method} {c : Code} {H : Heap} {locs : List Loc} {cells slots : Nat} {Q : State → Prop} {cc : ByteArray} {pc pv : Nat} {ls : Array Slot} {rest : List Value} {dC : Nat → ClassId} {dI : Nat → Nat → Nat} {A : Nat → Prop} {tys : List (ClassId × FieldType)} {ws : va_W} {cI cZ : ClassId}
/-- one element of an array in a field is written -/
theorem zk_st {own C : String} {T : u_T} {NF ci ix kf h0 qa a N k kI : Nat} {fs : List Value} {f : Nat → Int32} {v : Int32} (hx : p.tables.exec = Jvm.exec) (hb : c.code = cc) (hts : ∀ w ∈ z_T, w.before args s = true) (hown : s.vm.findClass own = some m.cls) (hK : va_K (dC, dI) vwCl tys s) (hI : tys[kI]? = some (cI, .int)) (hP : va_P (dC, dI) vwCl ws H) (hD : va_D A ws) (hS : va_S A s.heap H locs) (he : ws[0]? = some (h0, .inr (ci, fs))) (hc : vwCl[ci]? = some (C, T, NF)) (hkf : kf < NF) (hlink : Cond.fieldLink own ix own (T kf).2.1 (T kf).2.2.1 ∈ z_T) (hdecl : (T kf).1 = own) (hv : fs[kf]? = some (.ref a)) (ha : ws[qa]? = some (a, .inl (cI, N, .inl f))) (hk : k < N) (hN : N ≤ 10000) (hl0 : ls[0]? = some (.val (.ref h0))) (hl1 : ls[1]? = some (.val (.int (Int32.ofNat k))))
    (d0 : decode cc pc = .ok (.aload_n 0, 1)) (d1 : decode cc (pc + 1) = .ok (.getfield ix, 3)) (d2 : decode cc (pc + 4) = .ok (.iload_n 1, 1)) (d3 : zk_ps cc (pc + 5) v pv) (d4 : decode cc pv = .ok (.iastore, 1))
    (kk : ∀ (H1 : Heap) (locs1 : List Loc), va_P (dC, dI) vwCl (ws.set qa (a, .inl (cI, N, .inl (upd f k v)))) H1 → va_D A (ws.set qa (a, .inl (cI, N, .inl (upd f k v)))) → va_S A s.heap H1 locs1 → W p l e R s m args below meth c H1 locs1 cells slots Q (F0 m (pv + 1) ls rest)) : W p l e R s m args below meth c H locs cells slots Q (F0 m pc ls rest) := by
  refine lv_aload_n hx hb d0 rfl hl0 ?_
  refine va_get (D := (dC, dI)) hx hb hts (z_inX _ _ hc) hown hK hP 0 he hc kf hkf (hts _ hlink) (fun x h => by rw [hdecl] at h; exact h) hv d1 ?_
  refine lv_iload_n hx hb d2 rfl hl1 ?_
  refine zk_push hx hb d3 ?_
  refine va_iast (D := (dC, dI)) hx hb hK hP hD hS qa kI ha hI (show zx N (Int32.ofNat k) from zx_of hk (by omega)) d4 (fun H1 locs1 hP1 hD1 hS1 => ?_)
  rw [zk_ix k (by omega)] at hP1 hD1
  exact kk H1 locs1 hP1 hD1 hS1
/-- a loop that fills one array -/
theorem zk_fill1 {own C : String} {T : u_T} {NF ci ix kf h0 qa a N kI nL hd pb pe : Nat} {off1 off2 : Int} {fs : List Value} {v : Int32} (hx : p.tables.exec = Jvm.exec) (hb : c.code = cc) (hts : ∀ w ∈ z_T, w.before args s = true) (hown : s.vm.findClass own = some m.cls) (hK : va_K (dC, dI) vwCl tys s) (hI : tys[kI]? = some (cI, .int)) (he : ∀ x, (ws.set qa x)[0]? = some (h0, .inr (ci, fs))) (hc : vwCl[ci]? = some (C, T, NF)) (hkf : kf < NF) (hlink : Cond.fieldLink own ix own (T kf).2.1 (T kf).2.2.1 ∈ z_T) (hdecl : (T kf).1 = own) (hv : fs[kf]? = some (.ref a)) (ha : ∀ x, (ws.set qa x)[qa]? = some x) (hN : N ≤ 10000) (hnL : 1 < nL)
    (B : ∀ (f : Nat → Int32) (H : Heap) (locs : List Loc) (ls : Array Slot) (rest : List Value), va_P (dC, dI) vwCl (ws.set qa (a, .inl (cI, N, .inl f))) H → ls[0]? = some (.val (.ref h0)) → W p l e R s m args below meth c H locs cells slots Q (F0 m pb ls (.int (Int32.ofNat N) :: rest)) → W p l e R s m args below meth c H locs cells slots Q (F0 m (hd + 1) ls rest))
    (d0 : decode cc hd = .ok (.iload_n 1, 1)) (d1 : decode cc pb = .ok (.if_icmp .ge off1, 3)) (t1 : (pb : Int) + off1 = (pe : Int)) (e0 : decode cc (pb + 3) = .ok (.aload_n 0, 1)) (e1 : decode cc (pb + 3 + 1) = .ok (.getfield ix, 3)) (e2 : decode cc (pb + 3 + 4) = .ok (.iload_n 1, 1)) (e3 : zk_ps cc (pb + 3 + 5) v pv) (e4 : decode cc pv = .ok (.iastore, 1)) (e5 : decode cc (pv + 1) = .ok (.iinc 1 1, 3)) (e6 : decode cc (pv + 1 + 3) = .ok (.goto off2, 3)) (t2 : ((pv + 1 + 3 : Nat) : Int) + off2 = (hd : Int))
    (kk : ∀ (H : Heap) (locs : List Loc) (ls : Array Slot), lv_has ls nL [(1, .int (Int32.ofNat N)), (0, .ref h0)] → va_P (dC, dI) vwCl (ws.set qa (a, .inl (cI, N, .inl (zkf N v)))) H → va_D A (ws.set qa (a, .inl (cI, N, .inl (zkf N v)))) → va_S A s.heap H locs → W p l e R s m args below meth c H locs cells slots Q (F0 m pe ls rest)) :
    ∀ (d k : Nat), N = k + d → ∀ (H : Heap) (locs : List Loc) (ls : Array Slot), lv_has ls nL [(1, .int (Int32.ofNat k)), (0, .ref h0)] → va_P (dC, dI) vwCl (ws.set qa (a, .inl (cI, N, .inl (zkf k v)))) H → va_D A (ws.set qa (a, .inl (cI, N, .inl (zkf k v)))) → va_S A s.heap H locs → W p l e R s m args below meth c H locs cells slots Q (F0 m hd ls rest) := by
  intro d
  induction d with
  | zero =>
    intro k hk H locs ls hl hP hD hS
    have hk' : k = N := by omega
    subst hk'
    refine lv_iload_n hx hb d0 rfl (lv_at hl 0 rfl) ?_
    refine B _ H locs ls _ hP (lv_at hl 1 rfl) ?_
    refine lv_icmp_ge hx hb d1 t1 (fun _ => kk H locs ls hl hP hD hS) (fun h => absurd (by rw [zk_le]; exact Int.le_refl _) h)
  | succ d ih =>
    intro k hk H locs ls hl hP hD hS
    refine lv_iload_n hx hb d0 rfl (lv_at hl 0 rfl) ?_
    refine B _ H locs ls _ hP (lv_at hl 1 rfl) ?_
    refine lv_icmp_ge hx hb d1 t1 (fun h => ?_) (fun _ => ?_)
    · exfalso
      rw [zk_le, zk_ti _ (by omega), zk_ti _ (by omega)] at h
      omega
    · refine zk_st hx hb hts hown hK hI hP hD hS (he _) hc hkf hlink hdecl hv (ha _) (by omega) hN (lv_at hl 1 rfl) (lv_at hl 0 rfl) e0 e1 e2 e3 e4 (fun H1 locs1 hP1 hD1 hS1 => ?_)
      rw [List.set_set, zkf_s] at hP1 hD1
      refine lv_iinc hx hb e5 hl (k := 0) rfl (v := Int32.ofNat (k + 1)) (by rw [kc_1, zk_add]) hnL rfl (fun ls' hl' => ?_)
      refine lv_goto hx hb e6 t2 ?_
      exact ih (k + 1) (by omega) H1 locs1 ls' hl' hP1 hD1 hS1
end ZK
