/-! THE CLAIM OUT OF ONE WALK OF THE LAW'S BODY. Your part is whole_start (and what it stands on); all else here is the same for every law, but numbers. -/
def R_law : String := "SealwrightVaultLaw"
def lw_P (b : Addr) (xs : List Int32) (args : Array Value) (s : State) : Prop := args = #[.ref b] ∧ s.IntsAt b xs ∧ xs.length ≤ 260 ∧ (Jvm.Cond.and given_1 narrow_1).before args s = true
def lw_Q (_ : Array Value) (s : State) (o : Outcome) (t : State) : Prop := o = .returned (some (.int 1)) ∧ Framed s o t [] 141 9611
def lw_Z (below : List Frame) (a : Array Value) (s : State) : State → Prop := fun t => ∃ o, t.status = .running ∧ Ended t below o ∧ lw_Q a s o t
/-- the law's own end, with 1 on the stack, nothing written that was there before, its room as the claim has it -/
theorem lw_ret {p : Program} {l : Launch} {e : Env} {s : State} {m : MethodId} {below : List Frame} {meth : Method} {c : Code} {b : Nat} (hx : p.tables.exec = Jvm.exec) (hb : c.code = code) (hr : meth.sig.returnType = ret) (hlocks : meth.locks = false) {pc : Nat} {H : Heap} {ls : Array Slot} (hdg : decode code pc = .ok (.ireturn, 1)) : W p l e room_1 s m #[Value.ref b] below meth c H [] 141 9611 (lw_Z below #[Value.ref b] s) (F0 m pc ls [.int 1]) := by
  intro T hT X
  obtain ⟨fs, hret, hrun, hended, hW, hframe⟩ := X.leave (v := some (.int 1)) (hlocks := hlocks) (fun h => by rw [hr] at h; cases h)
  have hmeth' : T.vm.method? m = some meth := X.method'
  refine ⟨T.setFrames fs, ?_, .returned (some (.int 1)), hrun, hended, rfl, ⟨_, rfl⟩, hW, hframe⟩
  jvm_step X.here [X.here.top, hx, hb, hdg, hmeth', hr, ret, narrow_b1]
  (try refine ⟨rfl, ?_⟩); (try refine ⟨rfl, ?_⟩)
  first | (intro acts; rw [hret _ acts rfl rfl rfl]) | rw [hret _ _ rfl rfl rfl]
  exact Steps.refl _
/-- what holds at the law's entry: the machine, the code, the tables' words (any of lw_tbl by 'hts w (by decide +kernel)'), the script of L ints xs at the cell b, what the Statement gives of the start (any of its parts by flat_of_before) -/
def lw_At (p : Program) (s : State) (m : MethodId) (meth : Method) (c : Code) (b L : Nat) (xs : Nat → Int32) : Prop :=
  p.tables.exec = Jvm.exec ∧ c.code = code ∧ meth.sig.returnType = ret ∧ c.maxLocals = 7 ∧ s.vm.findClass R_law = some m.cls ∧ (∀ w ∈ lw_tbl, w.before #[Value.ref b] s = true) ∧ va_X b L xs s s.heap ∧ b < s.heap.size ∧ meth.locks = false ∧ (Jvm.Cond.and given_1 narrow_1).before #[Value.ref b] s = true
theorem z_th_nil (m : Nat) : z_th m = [] := by
  have k : z_hs.all List.isEmpty = true := by decide +kernel
  unfold z_th
  rw [List.getD_eq_getElem?_getD]
  cases h : z_hs[m]? with
  | none => rfl
  | some x => exact List.isEmpty_iff.mp (List.all_eq_true.mp k x (List.mem_of_getElem? h))
theorem zk_fx {s : State} {b L : Nat} {xs : Nat → Int32} {dC : Nat → ClassId} {dI : Nat → Nat → Nat} {cI cZ cJ : ClassId} {q : Nat → Nat} (hq : q 1000 = b) (hts : ∀ w ∈ lw_tbl, w.before #[Value.ref b] s = true) (hX : va_X b L xs s s.heap) (hbl : b < s.heap.size) (hgv : (Jvm.Cond.and given_1 narrow_1).before #[Value.ref b] s = true) (hK : va_K (dC, dI) vwCl [(cI, .int), (cZ, .boolean)] s) : z_Fx dC dI cI cZ cJ q (fun q => s.heap.size ≤ q) L xs s s.heap := by
  have hs := flat_of_before _ hgv
  have hA : ∀ a : Nat, a < s.heap.size → ¬ (fun q : Nat => s.heap.size ≤ q) a := fun a ha => Nat.not_le.mpr ha
  refine ⟨hK, ?_, ?_, ?_, by rw [hq]; exact hX, by rw [hq]; exact hbl, ?_, ?_, ?_⟩
  · exact va_Nw.of rfl (hts (.methodLinkNest RX6 66 yX11_firstOf RX11) (zk_tin (i := 781) (by decide +kernel)))
  · exact vx_Zqof (hts (.laysStatic "java/lang/Throwable" "UNASSIGNED_STACK" "[Ljava/lang/StackTraceElement;") (zk_tin (i := 453) (by decide +kernel))) (hts (.initialized "java/lang/Throwable") (zk_tin (i := 13) (by decide +kernel))) (hs (.isRef (.static "java/lang/Throwable" "UNASSIGNED_STACK" "[Ljava/lang/StackTraceElement;")) (by decide +kernel)) hA
  · exact vx_Zqof (hts (.laysStatic "java/lang/Throwable" "SUPPRESSED_SENTINEL" "Ljava/util/List;") (zk_tin (i := 455) (by decide +kernel))) (hts (.initialized "java/lang/Throwable") (zk_tin (i := 13) (by decide +kernel))) (hs (.isRef (.static "java/lang/Throwable" "SUPPRESSED_SENTINEL" "Ljava/util/List;")) (by decide +kernel)) hA
  · intro E E' _ _ hm
    obtain ⟨m, hm⟩ := hm
    exact absurd (z_th_nil m) hm
  · intro y hy
    simp only [z_dcl, List.mem_cons, List.not_mem_nil, or_false] at hy
    rcases hy with rfl | rfl | rfl
    · exact va_Nw.of rfl (hts (.declares ⟨"java/lang/RuntimeException", "<init>", "()V"⟩) (zk_tin (i := 429) (by decide +kernel)))
    · exact va_Nw.of rfl (hts (.declares ⟨"java/lang/Exception", "<init>", "()V"⟩) (zk_tin (i := 431) (by decide +kernel)))
    · exact va_Nw.of rfl (hts (.declares ⟨"java/lang/Throwable", "<init>", "()V"⟩) (zk_tin (i := 433) (by decide +kernel)))
  · intro E hE
    match E, hE with
    | 0, _ => exact va_Nw.of rfl (hts (.castable "java/lang/IndexOutOfBoundsException" "java/lang/IndexOutOfBoundsException") (zk_tin (i := 555) (by decide +kernel)))
    | 1, _ => exact va_Nw.of rfl (hts (.castable "java/lang/IllegalArgumentException" "java/lang/IllegalArgumentException") (zk_tin (i := 428) (by decide +kernel)))
    | 2, _ => exact va_Nw.of rfl (hts (.castable "java/lang/IllegalStateException" "java/lang/IllegalStateException") (zk_tin (i := 498) (by decide +kernel)))
    | n + 3, h => exact absurd h (by omega)
/-- the law's loop, by the small machine -/
theorem zk_loop (hG : z_Good) {p : Program} {e : Env} {s : State} {m : MethodId} {below : List Frame} {meth : Method} {c : Code} (l : Launch) (hflags : l.flags = flags0) {b L : Nat} {xs : Nat → Int32} (hL : L ≤ 260) (C0 : lw_At p s m meth c b L xs) {dC : Nat → ClassId} {dI : Nat → Nat → Nat} {cI cZ cJ : ClassId} (hK : va_K (dC, dI) vwCl [(cI, .int), (cZ, .boolean)] s) {q : Nat → Nat} (hq : q 1000 = b) (hAp : z_Ap q (fun a => s.heap.size ≤ a)) {H : Heap} {locs : List Loc} {ls : Array Slot} (hP : va_P (dC, dI) vwCl (z_W cI cZ cJ q (z0 xs)) H) (hS : va_S (fun a => s.heap.size ≤ a) s.heap H locs) (hl : lv_has ls 7 [(3, .ref (q 81)), (2, .ref (q 13)), (1, .ref (q 0)), (0, .ref b)]) {cells slots : Nat} (hcells : cells ≤ 141) (hslots : slots ≤ 9611) : W p l e room_1 s m #[Value.ref b] below meth c H locs cells slots (lw_Z below #[Value.ref b] s) (F0 m 18 ls []) := by
  obtain ⟨hx, hb, hr, hml, hown, hts, hX, hbl, hlocks, hgv⟩ := id C0
  obtain ⟨v, S2, ⟨n, hn⟩, hv, _⟩ := q338 (S := z0 xs) hL rfl
  subst hv
  have hst : l.stackTraces = false := by unfold Launch.stackTraces; rw [hflags]; decide +kernel
  have h9 := (z_sound (dC := dC) (dI := dI) (cI := cI) (cZ := cZ) (cJ := cJ) (q := q) (X := xs) hG hAp hst n 338 _ _ hn).2 p e room_1 s m #[Value.ref b] below meth c (lw_Z below #[Value.ref b] s) 141 9611 cells slots
    ⟨hx, hb, hml, hown, zk_tT hts, Nat.le_of_ble_eq_true rfl, Nat.le_of_ble_eq_true rfl, hst⟩ (zk_fx hq hts hX hbl hgv hK) (fun h => absurd rfl h) (by show cells + 0 ≤ 141; omega) (Nat.le_refl _) (by show slots + 6 * 0 ≤ 9611; omega) (Nat.le_refl _)
    (fun pcb ls H locs c9 s9 hret hP2 hX2 hS2 hc9 hs9 => va_forget (fun q hq => hS2.2.2 q hq) (W.widen hc9 hs9 (lw_ret hx hb hr hlocks hret.1))) H locs ls
    ⟨hP, rfl, hS, ⟨hl.1, hl.2.1, fun x hx => ?_⟩, rfl⟩
  · exact h9
  · apply hl.2.2
    have hx : x ∈ [(0, .ref (q 1000)), (1, .ref (q 0)), (2, .ref (q 13)), (3, Value.ref (q 81))] := hx
    rw [hq] at hx
    simp only [List.mem_cons, List.not_mem_nil, or_false] at hx ⊢
    rcases hx with h | h | h | h
    · exact Or.inr (Or.inr (Or.inr h))
    · exact Or.inr (Or.inr (Or.inl h))
    · exact Or.inr (Or.inl h)
    · exact Or.inl h
/-- from the law's entry up to its loop -/
theorem whole_start_of (hG : z_Good) {p : Program} {e : Env} {s : State} {m : MethodId} {below : List Frame} {meth : Method} {c : Code} (l : Launch) (hflags : l.flags = flags0) {b L : Nat} {xs : Nat → Int32} (hL : L ≤ 260) (C0 : lw_At p s m meth c b L xs) : W p l e room_1 s m #[Value.ref b] below meth c s.heap [] 0 0 (lw_Z below #[Value.ref b] s) (entryFrame m ([Value.ref b] : List Value).toArray 7) := by
  obtain ⟨hx, hb, hr, hml, hown, hts, hX, hbl, hlocks, hgv⟩ := id C0
  have hown : s.vm.findClass RL = some m.cls := hown
  have htT := zk_tT hts
  have hA : ∀ q : Nat, s.heap.size ≤ q → (fun q : Nat => s.heap.size ≤ q) q := fun _ h => h
  have hbA : ¬ (fun q : Nat => s.heap.size ≤ q) b := Nat.not_le.mpr hbl
  obtain ⟨dC, dI, hKc⟩ := zk_known htT
  obtain ⟨cI, hI1, hI2⟩ := zk_arr (htT (.arrayClass .int) (z_w_in (k := 66) (by decide +kernel)))
  obtain ⟨cZ, hZ1, hZ2⟩ := zk_arr (htT (.arrayClass .boolean) (z_w_in (k := 191) (by decide +kernel)))
  have hK : va_K (dC, dI) vwCl [(cI, .int), (cZ, .boolean)] s := by
    refine ⟨hKc, fun k q h => ?_⟩
    match k, h with
    | 0, h => cases h; exact ⟨hI1, hI2⟩
    | 1, h => cases h; exact ⟨hZ1, hZ2⟩
    | k + 2, h => simp at h
  have hS : va_S (fun q : Nat => s.heap.size ≤ q) s.heap s.heap [] := va_S.rf
  have hP : va_P (dC, dI) vwCl [] s.heap := fun k q h => by simp at h
  have hD : va_D (fun q : Nat => s.heap.size ≤ q) [] := ⟨fun i j p q h => by simp at h, fun k q h => by simp at h⟩
  have hl := lv_entry ([.ref b]) (n := 7) (Nat.le_of_ble_eq_true rfl)
  rw [lg_entry_eq]
  generalize (lg_sl ([.ref b]) ++ List.replicate (7 - (lg_sl ([.ref b])).length) Slot.unset).toArray = ls at hl ⊢
  have hl : lv_has ls 7 [(0, .ref b)] := hl
  refine va_new (ci := 11) (fs := [.null, .null, .null, .null, .null, .null, .null, .null, .null, .null, .null, .int 0]) (C := RX11) (T := TX11) (N := 12) hx hb htT (z_inX 11 _ rfl) tyX11 tyX11_ok hown (htT (.classLink RL 12 RX11) (z_w_in (k := 21) (by decide +kernel))) (htT (.instantiable RX11 12) (z_w_in (k := 22) (by decide +kernel))) (htT (.initialized RX11) (z_w_in (k := 1) (by decide +kernel))) hK hP hD hS hA rfl (fun j hj => by rcases (show j = 0 ∨ j = 1 ∨ j = 2 ∨ j = 3 ∨ j = 4 ∨ j = 5 ∨ j = 6 ∨ j = 7 ∨ j = 8 ∨ j = 9 ∨ j = 10 ∨ j = 11 by omega) with rfl | rfl | rfl | rfl | rfl | rfl | rfl | rfl | rfl | rfl | rfl | rfl <;> rfl) (Nat.le_of_ble_eq_true rfl) (Nat.le_of_ble_eq_true rfl) (show decode code 0 = .ok (.new 12, 3) by decide +kernel) (fun h0 H hP hD hS => ?_)
  have hP : va_P (dC, dI) vwCl [(h0, .inr (11, [.null, .null, .null, .null, .null, .null, .null, .null, .null, .null, .null, .int 0]))] H := hP
  have hD : va_D (fun q : Nat => s.heap.size ≤ q) [(h0, .inr (11, [.null, .null, .null, .null, .null, .null, .null, .null, .null, .null, .null, .int 0]))] := hD
  refine lv_dup hx hb (show decode code 3 = .ok (.dup, 1) by decide +kernel) rfl ?_
  have hPc := hP.sub (ws' := [(h0, .inr (11, [.null, .null, .null, .null, .null, .null, .null, .null, .null, .null, .null, .int 0]))]) [0] rfl
  have hDc := hD.sub (ws' := [(h0, .inr (11, [.null, .null, .null, .null, .null, .null, .null, .null, .null, .null, .null, .int 0]))]) [0] (by decide) rfl
  have hKc := hK.sub (tys' := [(cI, .int), (cZ, .boolean)]) [0, 1] rfl
  have hFc := va_free (wc := [(h0, .inr (11, [.null, .null, .null, .null, .null, .null, .null, .null, .null, .null, .null, .int 0]))]) hD hS hA [0] rfl
  refine va_callv (va_runI (As := []) (rest := [.ref h0]) ⟨hx, hb, hml, hown, htT⟩ (zc11 l dC dI cI cZ h0 H.size) (cwI 0 htT zk_good11 rfl rfl rfl (htT (.initialized RX11) (z_w_in (k := 1) (by decide +kernel))) (htT (.methodLink RL 213 yX11_init) (z_w_in (k := 23) (by decide +kernel))) (htT (.instanceMethod yX11_init) (z_w_in (k := 24) (by decide +kernel))) rfl (by decide +kernel) ⟨Nat.le_of_ble_eq_true rfl, Nat.le_of_ble_eq_true rfl⟩) ⟨fun a U g mk q => by obtain ⟨q0, q1, qP, qK, qD⟩ := q; exact ⟨q0, q1, qP, va_K.moved (u := U) (U := U.calling g mk a) (Vm.Alike.refl U.vm) qK, qD⟩, fun U hU hW => ⟨rfl, by rw [hU], by rw [hU]; exact hPc, va_K.moved hW.alike hKc, hDc.weaken (fun _ _ _ _ => trivial)⟩⟩ rfl rfl hl.1 rfl (lv_room (Nat.le_of_ble_eq_true rfl)) (show decode code 4 = .ok (.invokespecial 213, 3) by decide +kernel) ⟨Nat.le_of_ble_eq_true rfl, Nat.le_of_ble_eq_true rfl⟩) hS (fun q _ h => hFc q h) hFc (fun u t H1 locs ht hvm _ hB hz1 hk1 hS => ?_)
  obtain ⟨hP1, hK1, hD1⟩ := hB
  rw [ht] at hP1
  obtain ⟨hP, hD⟩ := va_join (wr := []) (w1 := (zw11 cI cZ h0 u)) hP hD [0] [] rfl rfl (by decide) (by decide) hk1 hFc hP1 hD1
  generalize H1 = H at hP hS ⊢
  have hP : va_P (dC, dI) vwCl (zw11 cI cZ h0 u) H := hP
  have hD : va_D (fun q : Nat => s.heap.size ≤ q) (zw11 cI cZ h0 u) := hD
  refine lv_astore_n (lv' := [(1, .ref h0), (0, .ref b)]) hx hb (show decode code 7 = .ok (.astore_n 1, 1) by decide +kernel) rfl hl (by decide) rfl (fun ls hl => ?_)
  refine zk_push (v := 9) (np := 10) hx hb (Or.inr (Or.inl ⟨9, by decide +kernel, by decide, rfl⟩)) ?_
  refine zk_newI (N := 9) (kI := 0) (cI := cI) hx hb (htT (.arrayClass .int) (z_w_in (k := 66) (by decide +kernel))) hK rfl hP hD hS hA (by decide) (by decide) (Nat.le_of_ble_eq_true rfl) (Nat.le_of_ble_eq_true rfl) (Nat.le_of_ble_eq_true rfl) (show decode code 10 = .ok (.newarray .int, 2) by decide +kernel) (fun hc H hP hD hS => ?_)
  refine lv_astore_n (lv' := [(2, .ref hc), (1, .ref h0), (0, .ref b)]) hx hb (show decode code 12 = .ok (.astore_n 2, 1) by decide +kernel) rfl hl (by decide) rfl (fun ls hl => ?_)
  refine zk_push (v := 12) (np := 15) hx hb (Or.inr (Or.inl ⟨12, by decide +kernel, by decide, rfl⟩)) ?_
  refine zk_newI (N := 12) (kI := 0) (cI := cI) hx hb (htT (.arrayClass .int) (z_w_in (k := 66) (by decide +kernel))) hK rfl hP hD hS hA (by decide) (by decide) (Nat.le_of_ble_eq_true rfl) (Nat.le_of_ble_eq_true rfl) (Nat.le_of_ble_eq_true rfl) (show decode code 15 = .ok (.newarray .int, 2) by decide +kernel) (fun he H hP hD hS => ?_)
  refine lv_astore_n (lv' := [(3, .ref he), (2, .ref hc), (1, .ref h0), (0, .ref b)]) hx hb (show decode code 17 = .ok (.astore_n 3, 1) by decide +kernel) rfl hl (by decide) rfl (fun ls hl => ?_)
  have ew : zww cI cZ h0 hc he u = zw11 cI cZ h0 u ++ [(hc, .inl (cI, 9, .inl fun _ => 0))] ++ [(he, .inl (cI, 12, .inl fun _ => 0))] := by rw [List.append_assoc]; rfl
  have hP : va_P (dC, dI) vwCl (zww cI cZ h0 hc he u) H := by rw [ew]; exact hP
  have hD : va_D (fun q : Nat => s.heap.size ≤ q) (zww cI cZ h0 hc he u) := by rw [ew]; exact hD
  exact zk_loop hG l hflags hL C0 (cJ := cI) hK (q := zq0 b h0 hc he u) rfl (zww_A hD hbA) (zww_P hP) hS hl (Nat.le_of_ble_eq_true rfl) (Nat.le_of_ble_eq_true rfl)
