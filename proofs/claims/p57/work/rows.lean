section
-- ===== PART A: goes FIRST, ahead of the names: the tables' words, and 'selects' of the private methods out of them =====
/-- a private method of a class that the tables say can be made, by its rows of tables_1 -/
def lw_okq (q : MethodName × Nat) : Prop := (q.1.cls ≠ "java/lang/invoke/MethodHandle" ∧ q.1.cls ≠ "java/lang/invoke/VarHandle") ∧ Cond.instantiable q.1.cls q.2 ∈ tables_1 ∧ Cond.privateMethod q.1 ∈ tables_1 ∧ Cond.instanceMethod q.1 ∈ tables_1
theorem lw_p0 : lw_okq (⟨"java/lang/Throwable", "fillInStackTrace", "(I)Ljava/lang/Throwable;"⟩, 6) := ⟨⟨by decide +kernel, by decide +kernel⟩, List.mem_of_getElem? (i := 465) (by decide +kernel), List.mem_of_getElem? (i := 463) (by decide +kernel), List.mem_of_getElem? (i := 464) (by decide +kernel)⟩
theorem lw_p1 : lw_okq (⟨"SealwrightVault$Seal", "addTerm", "(II)V"⟩, 11) := ⟨⟨by decide +kernel, by decide +kernel⟩, List.mem_of_getElem? (i := 30) (by decide +kernel), List.mem_of_getElem? (i := 520) (by decide +kernel), List.mem_of_getElem? (i := 521) (by decide +kernel)⟩
theorem lw_p2 : lw_okq (⟨"SealwrightVault$Seal", "gather", "(II)I"⟩, 11) := ⟨⟨by decide +kernel, by decide +kernel⟩, List.mem_of_getElem? (i := 30) (by decide +kernel), List.mem_of_getElem? (i := 581) (by decide +kernel), List.mem_of_getElem? (i := 582) (by decide +kernel)⟩
theorem lw_p3 : lw_okq (⟨"SealwrightVault$Seal", "keyOfGiven", "()I"⟩, 11) := ⟨⟨by decide +kernel, by decide +kernel⟩, List.mem_of_getElem? (i := 30) (by decide +kernel), List.mem_of_getElem? (i := 585) (by decide +kernel), List.mem_of_getElem? (i := 586) (by decide +kernel)⟩
theorem lw_p4 : lw_okq (⟨"SealwrightVault$Seal", "weightOf", "(I)I"⟩, 11) := ⟨⟨by decide +kernel, by decide +kernel⟩, List.mem_of_getElem? (i := 30) (by decide +kernel), List.mem_of_getElem? (i := 589) (by decide +kernel), List.mem_of_getElem? (i := 590) (by decide +kernel)⟩
theorem lw_p5 : lw_okq (⟨"SealwrightVault$Seal", "forgetGiven", "()V"⟩, 11) := ⟨⟨by decide +kernel, by decide +kernel⟩, List.mem_of_getElem? (i := 30) (by decide +kernel), List.mem_of_getElem? (i := 599) (by decide +kernel), List.mem_of_getElem? (i := 600) (by decide +kernel)⟩
theorem lw_p6 : lw_okq (⟨"SealwrightVault", "clearBehindUnmounting", "(I)V"⟩, 12) := ⟨⟨by decide +kernel, by decide +kernel⟩, List.mem_of_getElem? (i := 22) (by decide +kernel), List.mem_of_getElem? (i := 621) (by decide +kernel), List.mem_of_getElem? (i := 622) (by decide +kernel)⟩
theorem lw_p7 : lw_okq (⟨"SealwrightVault$FarSite", "moveEntry", "(II)V"⟩, 7) := ⟨⟨by decide +kernel, by decide +kernel⟩, List.mem_of_getElem? (i := 252) (by decide +kernel), List.mem_of_getElem? (i := 634) (by decide +kernel), List.mem_of_getElem? (i := 635) (by decide +kernel)⟩
theorem lw_p8 : lw_okq (⟨"SealwrightVault$Leases", "endNow", "(II)V"⟩, 11) := ⟨⟨by decide +kernel, by decide +kernel⟩, List.mem_of_getElem? (i := 193) (by decide +kernel), List.mem_of_getElem? (i := 642) (by decide +kernel), List.mem_of_getElem? (i := 643) (by decide +kernel)⟩
theorem lw_p9 : lw_okq (⟨"SealwrightVault$Leases", "tryToRemove", "(I)V"⟩, 11) := ⟨⟨by decide +kernel, by decide +kernel⟩, List.mem_of_getElem? (i := 193) (by decide +kernel), List.mem_of_getElem? (i := 646) (by decide +kernel), List.mem_of_getElem? (i := 647) (by decide +kernel)⟩
/-- a private method's name that rows may not write out: read from the Statement's own tables -/
def lw_nm18 : String := match (tables_1_3.getD 236 Jvm.Cond.tt : Jvm.Cond) with
  | Jvm.Cond.privateMethod y => y.name
  | _ => ""
theorem lw_p10 : lw_okq (⟨"SealwrightVault", lw_nm18, "(IIII)I"⟩, 12) := ⟨⟨by decide +kernel, by decide +kernel⟩, List.mem_of_getElem? (i := 22) (by decide +kernel), List.mem_of_getElem? (i := 716) (by decide +kernel), List.mem_of_getElem? (i := 717) (by decide +kernel)⟩
theorem lw_p11 : lw_okq (⟨"SealwrightVault", "rightsAt", "(II)I"⟩, 12) := ⟨⟨by decide +kernel, by decide +kernel⟩, List.mem_of_getElem? (i := 22) (by decide +kernel), List.mem_of_getElem? (i := 747) (by decide +kernel), List.mem_of_getElem? (i := 748) (by decide +kernel)⟩
theorem lw_p12 : lw_okq (⟨"SealwrightVault$Rights", "policiesOfPerson", "(I)I"⟩, 10) := ⟨⟨by decide +kernel, by decide +kernel⟩, List.mem_of_getElem? (i := 112) (by decide +kernel), List.mem_of_getElem? (i := 763) (by decide +kernel), List.mem_of_getElem? (i := 764) (by decide +kernel)⟩
theorem lw_p13 : lw_okq (⟨"SealwrightVault$Rights", "groupsOf", "(I)I"⟩, 10) := ⟨⟨by decide +kernel, by decide +kernel⟩, List.mem_of_getElem? (i := 112) (by decide +kernel), List.mem_of_getElem? (i := 767) (by decide +kernel), List.mem_of_getElem? (i := 768) (by decide +kernel)⟩
theorem lw_p14 : lw_okq (⟨"SealwrightVault$Rights", "isInForce", "(II)Z"⟩, 10) := ⟨⟨by decide +kernel, by decide +kernel⟩, List.mem_of_getElem? (i := 112) (by decide +kernel), List.mem_of_getElem? (i := 771) (by decide +kernel), List.mem_of_getElem? (i := 772) (by decide +kernel)⟩
theorem lw_p15 : lw_okq (⟨"SealwrightVault$Rights", "vaguenessAt", "(III)I"⟩, 10) := ⟨⟨by decide +kernel, by decide +kernel⟩, List.mem_of_getElem? (i := 112) (by decide +kernel), List.mem_of_getElem? (i := 775) (by decide +kernel), List.mem_of_getElem? (i := 776) (by decide +kernel)⟩
def lw_privs_1 : List (MethodName × Nat) := [(⟨"java/lang/Throwable", "fillInStackTrace", "(I)Ljava/lang/Throwable;"⟩, 6), (⟨"SealwrightVault$Seal", "addTerm", "(II)V"⟩, 11), (⟨"SealwrightVault$Seal", "gather", "(II)I"⟩, 11), (⟨"SealwrightVault$Seal", "keyOfGiven", "()I"⟩, 11), (⟨"SealwrightVault$Seal", "weightOf", "(I)I"⟩, 11), (⟨"SealwrightVault$Seal", "forgetGiven", "()V"⟩, 11), (⟨"SealwrightVault", "clearBehindUnmounting", "(I)V"⟩, 12), (⟨"SealwrightVault$FarSite", "moveEntry", "(II)V"⟩, 7), (⟨"SealwrightVault$Leases", "endNow", "(II)V"⟩, 11), (⟨"SealwrightVault$Leases", "tryToRemove", "(I)V"⟩, 11), (⟨"SealwrightVault", lw_nm18, "(IIII)I"⟩, 12), (⟨"SealwrightVault", "rightsAt", "(II)I"⟩, 12), (⟨"SealwrightVault$Rights", "policiesOfPerson", "(I)I"⟩, 10), (⟨"SealwrightVault$Rights", "groupsOf", "(I)I"⟩, 10), (⟨"SealwrightVault$Rights", "isInForce", "(II)Z"⟩, 10), (⟨"SealwrightVault$Rights", "vaguenessAt", "(III)I"⟩, 10)]
theorem lw_r1 : ∀ q ∈ lw_privs_1, lw_okq q := List.forall_mem_cons.mpr ⟨lw_p0, List.forall_mem_cons.mpr ⟨lw_p1, List.forall_mem_cons.mpr ⟨lw_p2, List.forall_mem_cons.mpr ⟨lw_p3, List.forall_mem_cons.mpr ⟨lw_p4, List.forall_mem_cons.mpr ⟨lw_p5, List.forall_mem_cons.mpr ⟨lw_p6, List.forall_mem_cons.mpr ⟨lw_p7, List.forall_mem_cons.mpr ⟨lw_p8, List.forall_mem_cons.mpr ⟨lw_p9, List.forall_mem_cons.mpr ⟨lw_p10, List.forall_mem_cons.mpr ⟨lw_p11, List.forall_mem_cons.mpr ⟨lw_p12, List.forall_mem_cons.mpr ⟨lw_p13, List.forall_mem_cons.mpr ⟨lw_p14, List.forall_mem_cons.mpr ⟨lw_p15, fun _ h => absurd h List.not_mem_nil⟩⟩⟩⟩⟩⟩⟩⟩⟩⟩⟩⟩⟩⟩⟩⟩
theorem lw_p16 : lw_okq (⟨"SealwrightVault", "readOrAsk", "(III)I"⟩, 12) := ⟨⟨by decide +kernel, by decide +kernel⟩, List.mem_of_getElem? (i := 22) (by decide +kernel), List.mem_of_getElem? (i := 789) (by decide +kernel), List.mem_of_getElem? (i := 790) (by decide +kernel)⟩
theorem lw_p17 : lw_okq (⟨"SealwrightVault", "numberAt", "(II)I"⟩, 12) := ⟨⟨by decide +kernel, by decide +kernel⟩, List.mem_of_getElem? (i := 22) (by decide +kernel), List.mem_of_getElem? (i := 793) (by decide +kernel), List.mem_of_getElem? (i := 794) (by decide +kernel)⟩
theorem lw_p18 : lw_okq (⟨"SealwrightVault", "conclude", "(IIII)I"⟩, 12) := ⟨⟨by decide +kernel, by decide +kernel⟩, List.mem_of_getElem? (i := 22) (by decide +kernel), List.mem_of_getElem? (i := 814) (by decide +kernel), List.mem_of_getElem? (i := 815) (by decide +kernel)⟩
theorem lw_p19 : lw_okq (⟨"SealwrightVault", "letDie", "(I)I"⟩, 12) := ⟨⟨by decide +kernel, by decide +kernel⟩, List.mem_of_getElem? (i := 22) (by decide +kernel), List.mem_of_getElem? (i := 832) (by decide +kernel), List.mem_of_getElem? (i := 833) (by decide +kernel)⟩
theorem lw_p20 : lw_okq (⟨"SealwrightVault$Tokens", "isLeftByDead", "(I)Z"⟩, 12) := ⟨⟨by decide +kernel, by decide +kernel⟩, List.mem_of_getElem? (i := 149) (by decide +kernel), List.mem_of_getElem? (i := 840) (by decide +kernel), List.mem_of_getElem? (i := 841) (by decide +kernel)⟩
theorem lw_p21 : lw_okq (⟨"SealwrightVault", "refusalOfChild", "(II)I"⟩, 12) := ⟨⟨by decide +kernel, by decide +kernel⟩, List.mem_of_getElem? (i := 22) (by decide +kernel), List.mem_of_getElem? (i := 896) (by decide +kernel), List.mem_of_getElem? (i := 897) (by decide +kernel)⟩
theorem lw_p22 : lw_okq (⟨"SealwrightVault", "writeAt", "(III)I"⟩, 12) := ⟨⟨by decide +kernel, by decide +kernel⟩, List.mem_of_getElem? (i := 22) (by decide +kernel), List.mem_of_getElem? (i := 937) (by decide +kernel), List.mem_of_getElem? (i := 938) (by decide +kernel)⟩
theorem lw_p23 : lw_okq (⟨"SealwrightVault$FarSite", "logEntry", "(IIII)V"⟩, 7) := ⟨⟨by decide +kernel, by decide +kernel⟩, List.mem_of_getElem? (i := 252) (by decide +kernel), List.mem_of_getElem? (i := 957) (by decide +kernel), List.mem_of_getElem? (i := 958) (by decide +kernel)⟩
theorem lw_p24 : lw_okq (⟨"SealwrightVault", "eraseAt", "(III)I"⟩, 12) := ⟨⟨by decide +kernel, by decide +kernel⟩, List.mem_of_getElem? (i := 22) (by decide +kernel), List.mem_of_getElem? (i := 990) (by decide +kernel), List.mem_of_getElem? (i := 991) (by decide +kernel)⟩
theorem lw_p25 : lw_okq (⟨"SealwrightVault", "issueAt", "(IIII)I"⟩, 12) := ⟨⟨by decide +kernel, by decide +kernel⟩, List.mem_of_getElem? (i := 22) (by decide +kernel), List.mem_of_getElem? (i := 1009) (by decide +kernel), List.mem_of_getElem? (i := 1010) (by decide +kernel)⟩
theorem lw_p26 : lw_okq (⟨"SealwrightVault", "approveCase", "(II)I"⟩, 12) := ⟨⟨by decide +kernel, by decide +kernel⟩, List.mem_of_getElem? (i := 22) (by decide +kernel), List.mem_of_getElem? (i := 1121) (by decide +kernel), List.mem_of_getElem? (i := 1122) (by decide +kernel)⟩
theorem lw_p27 : lw_okq (⟨"SealwrightVault", "takeUpCase", "(II)I"⟩, 12) := ⟨⟨by decide +kernel, by decide +kernel⟩, List.mem_of_getElem? (i := 22) (by decide +kernel), List.mem_of_getElem? (i := 1147) (by decide +kernel), List.mem_of_getElem? (i := 1148) (by decide +kernel)⟩
theorem lw_p28 : lw_okq (⟨"SealwrightVault", "certifyAt", "(II)I"⟩, 12) := ⟨⟨by decide +kernel, by decide +kernel⟩, List.mem_of_getElem? (i := 22) (by decide +kernel), List.mem_of_getElem? (i := 1167) (by decide +kernel), List.mem_of_getElem? (i := 1168) (by decide +kernel)⟩
theorem lw_p29 : lw_okq (⟨"SealwrightVault$FarSite", "repeat", "(I)V"⟩, 7) := ⟨⟨by decide +kernel, by decide +kernel⟩, List.mem_of_getElem? (i := 252) (by decide +kernel), List.mem_of_getElem? (i := 1269) (by decide +kernel), List.mem_of_getElem? (i := 1270) (by decide +kernel)⟩
theorem lw_p30 : lw_okq (⟨"SealwrightVault", "beginHour", "()V"⟩, 12) := ⟨⟨by decide +kernel, by decide +kernel⟩, List.mem_of_getElem? (i := 22) (by decide +kernel), List.mem_of_getElem? (i := 1331) (by decide +kernel), List.mem_of_getElem? (i := 1332) (by decide +kernel)⟩
def lw_privs_2 : List (MethodName × Nat) := [(⟨"SealwrightVault", "readOrAsk", "(III)I"⟩, 12), (⟨"SealwrightVault", "numberAt", "(II)I"⟩, 12), (⟨"SealwrightVault", "conclude", "(IIII)I"⟩, 12), (⟨"SealwrightVault", "letDie", "(I)I"⟩, 12), (⟨"SealwrightVault$Tokens", "isLeftByDead", "(I)Z"⟩, 12), (⟨"SealwrightVault", "refusalOfChild", "(II)I"⟩, 12), (⟨"SealwrightVault", "writeAt", "(III)I"⟩, 12), (⟨"SealwrightVault$FarSite", "logEntry", "(IIII)V"⟩, 7), (⟨"SealwrightVault", "eraseAt", "(III)I"⟩, 12), (⟨"SealwrightVault", "issueAt", "(IIII)I"⟩, 12), (⟨"SealwrightVault", "approveCase", "(II)I"⟩, 12), (⟨"SealwrightVault", "takeUpCase", "(II)I"⟩, 12), (⟨"SealwrightVault", "certifyAt", "(II)I"⟩, 12), (⟨"SealwrightVault$FarSite", "repeat", "(I)V"⟩, 7), (⟨"SealwrightVault", "beginHour", "()V"⟩, 12)]
theorem lw_r2 : ∀ q ∈ lw_privs_2, lw_okq q := List.forall_mem_cons.mpr ⟨lw_p16, List.forall_mem_cons.mpr ⟨lw_p17, List.forall_mem_cons.mpr ⟨lw_p18, List.forall_mem_cons.mpr ⟨lw_p19, List.forall_mem_cons.mpr ⟨lw_p20, List.forall_mem_cons.mpr ⟨lw_p21, List.forall_mem_cons.mpr ⟨lw_p22, List.forall_mem_cons.mpr ⟨lw_p23, List.forall_mem_cons.mpr ⟨lw_p24, List.forall_mem_cons.mpr ⟨lw_p25, List.forall_mem_cons.mpr ⟨lw_p26, List.forall_mem_cons.mpr ⟨lw_p27, List.forall_mem_cons.mpr ⟨lw_p28, List.forall_mem_cons.mpr ⟨lw_p29, List.forall_mem_cons.mpr ⟨lw_p30, fun _ h => absurd h List.not_mem_nil⟩⟩⟩⟩⟩⟩⟩⟩⟩⟩⟩⟩⟩⟩⟩
def lw_privs : List (MethodName × Nat) := lw_privs_1 ++ (lw_privs_2)
def lw_tbl : List Cond := k2_sels lw_privs ++ tables_1
theorem lw_privs_ok : ∀ q ∈ lw_privs, lw_okq q := by
  show ∀ q ∈ lw_privs_1 ++ (lw_privs_2), lw_okq q
  exact List.forall_mem_append.mpr ⟨lw_r1, lw_r2⟩
end
section
/-! ===== BEGIN words of one list among another's, by their places ===== -/
theorem goodIn_r {big : List Cond} (ws : List Cond) (ps : List Nat) (hp : ws = ps.filterMap (fun i => big[i]?)) (h : ws.all goodWord = true) : GoodIn big ws := by
  intro w hw
  have h1 := List.all_eq_true.mp h w hw
  rw [hp] at hw
  obtain ⟨i, -, hi⟩ := List.mem_filterMap.mp hw
  have hm : w ∈ big := by first | exact List.mem_of_getElem? hi | exact List.getElem?_mem hi
  exact ⟨hm, good_of_word h1⟩
theorem goodIn_app {big a b : List Cond} (ha : GoodIn big a) (hb : GoodIn big b) : GoodIn big (a ++ b) := fun w h => (List.mem_append.mp h).elim (ha w) (hb w)
theorem goodIn_ca {big a b : List Cond} {c : Cond} (ha : GoodIn big (c :: a)) (hb : GoodIn big b) : GoodIn big (c :: (a ++ b)) := fun w h => (List.mem_cons.mp h).elim (fun e => ha w (List.mem_cons.mpr (Or.inl e))) (fun h => (List.mem_append.mp h).elim (fun h => ha w (List.mem_cons.mpr (Or.inr h))) (hb w))
theorem goodIn_sub {big ws : List Cond} (hm : ∀ w ∈ ws, w ∈ big) (h : ws.all goodWord = true) : GoodIn big ws := fun w hw => ⟨hm w hw, good_of_word (List.all_eq_true.mp h w hw)⟩
/-! ===== END ===== -/

/-! ===== BEGIN exceptions that leave a method, and their catching by the caller (launches without stack traces) ===== -/
section VXA
/-! The laws vx_back, vx_callV, vx_callS, vx_callSW, vx_throw0, vx_throwS follow proofs of the library, with one case more: JvmDerived/Free/Laws.lean (Back.of_free), Shelf42/LK1.lean (callV, callS), Shelf/KitTraced.lean (throwNew0V, throwNewS). -/
/-- where a method has thrown q: the class by its name, the cell, what was written, the world -/
def vx_T (XC : String → State → State → Prop) (st : State) (q : Addr) (t : State) (mc ms : Nat) (free : Addr → Prop) : Prop :=
  ∃ (E : String) (ce : Cell) (L : List Loc), XC E st t ∧ t.heap[q]? = some ce ∧ ce.vm = .none ∧ st.vm.findClass E = some ce.cls ∧ st.WarmedH t.vm ∧ st.sameButNew ({ t with vm := st.vm } : State) L mc ms ∧ ∀ z ∈ L, free z.base
def vx_Q (Qc : Array Value → State → Outcome → State → Prop) (XC : String → State → State → Prop) (mc ms : Nat) (free : Addr → Prop) : Array Value → State → Outcome → State → Prop := fun a st o t =>
  (Qc a st o t ∧ ∃ L, FrameEnd st o t L mc ms ∧ ∀ q ∈ L, free q.base) ∨ ∃ q, o = .threw q ∧ vx_T XC st q t mc ms free
/-- a callee that returns or throws -/
def vx_Met (l : Launch) (y : MethodName) (ws : List Cond) (rm : Room) (Pc : Array Value → State → Prop) (Qc : Array Value → State → Outcome → State → Prop) (XC : String → State → State → Prop) (mc ms : Nat) (free : Addr → Prop) : Prop :=
  MetFree l y (headSpec ws rm) Pc (fun _ _ _ _ _ => True) (vx_Q Qc XC mc ms free)
def vx_Post (XC : String → State → State → Prop) (mc ms : Nat) (free : Addr → Prop) : Pt → Array Value → Addr → Pt → Prop := fun A a q B =>
  ∃ (g : JFrame) (mk : MethodId) (t : State) (L : List Loc) (E : String) (ce : Cell), B.U.heap = t.heap ∧ B.U.vm = t.vm ∧ XC E (A.U.calling g mk a) t ∧ t.heap[q]? = some ce ∧ ce.vm = .none ∧ A.U.vm.findClass E = some ce.cls ∧ B.locs = A.locs ++ L ∧ (∀ z ∈ L, free z.base) ∧ B.cells = A.cells + mc ∧ B.slots = A.slots + ms
def vx_Back (l : Launch) (R : Room) (p : Program) (e : Env) (below : List Frame) (s : State) (sargs : Array Value) (y : MethodName) (len W9 : Nat)
    (Pre : Pt → Array Value → Prop) (Post : Pt → Array Value → Option Value → Pt → Prop) (PostX : Pt → Array Value → Addr → Pt → Prop) : Prop :=
  ∀ (m : MethodId) (meth : Method) (c : Code) (A : Pt) (g : JFrame) (ig : Instr) (mk : MethodId) (a : Array Value),
    Stand p l e R s m sargs below meth c A.U A.locs A.cells A.slots → g.method = m → g.locals.size = c.maxLocals → decode c.code g.pc = .ok (ig, len) →
    2 * g.monitorRoom + (g.stack.map fun v => v.category).sum ≤ W9 → A.U.methodNamed? y = some mk → Pre A a →
    (∃ (v : Option Value) (B : Pt), Stand p l e R s m sargs below meth c B.U B.locs B.cells B.slots ∧ Post A a v B ∧
      Steps p.tables e below (doInvoke e (A.U.setTop g) [] mk a).1 (B.U.setTop { g with pc := g.pc + len, stack := v.toList ++ g.stack })) ∨
    (∃ (q : Addr) (B : Pt), Stand p l e R s m sargs below meth c B.U B.locs B.cells B.slots ∧ PostX A a q B ∧
      Steps p.tables e below (doInvoke e (A.U.setTop g) [] mk a).1 ((B.U.setTop g).pushFrame (.throwing q)))
section Payer
variable {l : Launch} {R : Room} {p : Program} {e : Env} {below : List Frame} {s : State} {sargs : Array Value} {y : MethodName} {len W9 : Nat}
theorem vx_back {ws : List Cond} {rm : Room} {Pc : Array Value → State → Prop} {Qc : Array Value → State → Outcome → State → Prop} {XC : String → State → State → Prop} {mc ms : Nat} {free : Addr → Prop} {bytes : ByteArray} {maxL : Nat} {ret : Option FieldType}
    (hM : vx_Met l y ws rm Pc Qc XC mc ms free) (hblind : FrameBlind Pc) (hrc : rm.cells = mc) (hrs : rm.slots = ms)
    (hframes : rm.frames + 1 ≤ R.frames) (hlocals : W9 + (maxL + 11) + rm.locals ≤ R.locals)
    (hws : ∀ w ∈ ws, ∀ a' U, s.WarmedH U.vm → w.before a' U = true) (hcode : Cond.code y bytes maxL ret ∈ ws) (hinit : ∀ a' U, s.WarmedH U.vm → (Cond.initialized y.cls).before a' U = true) :
    vx_Back l R p e below s sargs y len W9 (PreOf R mc ms Pc) (PostOf Qc mc ms free) (vx_Post XC mc ms free) := by
  intro m meth c A g ig mk a X hg hsize hdg hW hn hp
  have h1 : (headSpec ws rm).pre.before a A.U = true := atoms_intro fun w hw => hws w hw _ _ X.warmed
  have h2 : (Cond.code y bytes maxL ret).before a A.U = true := hws _ hcode _ _ X.warmed
  have h3 : (Cond.initialized y.cls).before a A.U = true := hinit _ _ X.warmed
  have h4 : A.cells + (headSpec ws rm).room.cells ≤ R.cells := by rw [show (headSpec ws rm).room.cells = mc from hrc]; exact hp.1
  have h5 : A.slots + (headSpec ws rm).room.slots ≤ R.slots := by rw [show (headSpec ws rm).room.slots = ms from hrs]; exact hp.2.1
  have hPc : Pc a (A.U.calling g mk a) := hblind _ _ _ _ hp.2.2
  obtain ⟨U, Ls, c0, s0⟩ := A
  dsimp only [Pt.U, Pt.locs, Pt.cells, Pt.slots] at h1 h2 h3 h4 h5 X hn hPc ⊢
  obtain ⟨methY, cY, hmY, hcY, -, hlY, -, -, -, -⟩ := Cond.code_spec hn h2
  obtain ⟨kY, hkY, -⟩ := className_of_methodNamed hn
  have hinitY : kY.init = .initialized := Cond.initialized_spec (findClass_of_methodNamed hn) hkY h3
  have h : At U g.method c below := by rw [hg]; exact X.here
  have hlocals9 : W9 + (maxL + 11) + (headSpec ws rm).room.locals ≤ R.locals := hlocals
  have happ : (headSpec ws rm).appliesLoose y e.platform (U.calling g mk a) = true :=
    Spec.appliesLoose_calling (g := g) h hdg hn hkY hinitY
      (X.room_calling (g := g) (R' := (headSpec ws rm).room) hsize hmY hcY hframes (by rw [hlY]; omega) h4 h5) h1
  obtain ⟨mid, hmid⟩ := h.above
  have hfr : (U.setTop g).frames = (.java g :: mid) ++ below := by rw [State.frames_setTop' g h.top, hmid]; rfl
  obtain ⟨o, s₂, hsteps, -, hend, hq⟩ := Steps.callFree hM p X.admits X.cas X.clock (acts := []) hfr happ hPc trivial
  have hq' : vx_Q Qc XC mc ms free a (U.calling g mk a) o s₂ := hq
  rw [State.frames_setTop' g h.top] at hend
  obtain ⟨g₀, hg0⟩ := Option.isSome_iff_exists.mp h.top
  obtain ⟨r, hr⟩ := State.topJava?_eq_some.mp hg0
  have hr' : (({ U with heap := s₂.heap, slotsUsed := s₂.slotsUsed } : State).setVm s₂.vm).frames = .java g₀ :: r := hr
  rcases hq' with ⟨hqc, L, hfe, hL⟩ | ⟨q, rfl, E, ce, L, hx, hce, hcv, hcl, hW₂, hsm, hL⟩
  · obtain ⟨⟨v, rfl⟩, hW₂, e2, q2, q3, q4, q5, q6⟩ := id hfe
    have e3 : s₂ = ({ (U.calling g mk a).setFrames s₂.frames with heap := s₂.heap, slotsUsed := s₂.slotsUsed } : State).setVm s₂.vm := by
      have : s₂ = ({ s₂ with vm := (U.calling g mk a).vm } : State).setVm s₂.vm := rfl
      rw [e2] at this
      exact this
    obtain ⟨c₂, i₂, len₂, hc₂, hd₂, hf₂⟩ := hend
    have hW' : U.WarmedH s₂.vm := hW₂
    have hcc : c₂ = c := by
      have h1 : s₂.code? g.method = U.code? g.method := by
        rw [State.code?_eq, State.code?_eq, hW'.alike.method?]
      exact Option.some.inj (hc₂.symm.trans (h1.trans h.code))
    subst hcc
    have hlen : len₂ = len := by rw [hdg] at hd₂; cases hd₂; rfl
    subst hlen
    have hs₂ : s₂ = (({ U with heap := s₂.heap, slotsUsed := s₂.slotsUsed } : State).setVm s₂.vm).setTop { g with pc := g.pc + len₂, stack := v.toList ++ g.stack } := by
      refine e3.trans ?_
      rw [hf₂, State.calling_eq h.top, State.setFrames_setFrames, State.setTop_of_frames _ hr', hr]
      rfl
    have hsame : U.sameButNew ({ U with heap := s₂.heap, slotsUsed := s₂.slotsUsed } : State) L mc ms := by
      refine ⟨?_, q2, q3, q4, q5, q6⟩
      obtain ⟨t, ht, -⟩ := State.frames_cons hr
      show ({ U with heap := s₂.heap, slotsUsed := s₂.slotsUsed } : State) = { U.setFrames U.frames with heap := s₂.heap, slotsUsed := s₂.slotsUsed }
      rw [State.setFrames_self ht]
    subst hg
    refine Or.inl ⟨v, ⟨(({ U with heap := s₂.heap, slotsUsed := s₂.slotsUsed } : State).setVm s₂.vm), Ls ++ L, c0 + mc, s0 + ms⟩,
      ⟨X.admits, X.cas, X.clock, X.frames, X.room, X.hears, X.method, X.code, (X.here.setHeapUsed s₂.heap s₂.slotsUsed).setVm hW'.alike, X.tail, State.WarmedH.trans X.warmed hW', X.limits, X.bytes, X.same.trans (hsame.setVm s.vm)⟩,
      ⟨g, mk, s₂, L, rfl, rfl, hqc, rfl, hL, rfl, rfl⟩, ?_⟩
    show Steps p.tables e below _ ((({ U with heap := s₂.heap, slotsUsed := s₂.slotsUsed } : State).setVm s₂.vm).setTop { g with pc := g.pc + len₂, stack := v.toList ++ g.stack })
    rw [← hs₂]
    exact hsteps
  · obtain ⟨e2, q2, q3, q4, q5, q6⟩ := id hsm
    have e3 : s₂ = ({ (U.calling g mk a).setFrames s₂.frames with heap := s₂.heap, slotsUsed := s₂.slotsUsed } : State).setVm s₂.vm := by
      have : s₂ = ({ s₂ with vm := (U.calling g mk a).vm } : State).setVm s₂.vm := rfl
      rw [e2] at this
      exact this
    have hf₂ : s₂.frames = .throwing q :: .java g :: U.frames.tail := hend
    have hW' : U.WarmedH s₂.vm := hW₂
    have hs₂ : s₂ = ((({ U with heap := s₂.heap, slotsUsed := s₂.slotsUsed } : State).setVm s₂.vm).setTop g).pushFrame (.throwing q) := by
      refine e3.trans ?_
      rw [hf₂, State.calling_eq h.top, State.setFrames_setFrames, State.pushFrame, State.frames_setTop _ hr', State.setTop_of_frames _ hr', State.setFrames_setFrames, hr]
      rfl
    have hsame : U.sameButNew ({ U with heap := s₂.heap, slotsUsed := s₂.slotsUsed } : State) L mc ms := by
      refine ⟨?_, q2, q3, q4, q5, q6⟩
      obtain ⟨t, ht, -⟩ := State.frames_cons hr
      show ({ U with heap := s₂.heap, slotsUsed := s₂.slotsUsed } : State) = { U.setFrames U.frames with heap := s₂.heap, slotsUsed := s₂.slotsUsed }
      rw [State.setFrames_self ht]
    subst hg
    refine Or.inr ⟨q, ⟨(({ U with heap := s₂.heap, slotsUsed := s₂.slotsUsed } : State).setVm s₂.vm), Ls ++ L, c0 + mc, s0 + ms⟩,
      ⟨X.admits, X.cas, X.clock, X.frames, X.room, X.hears, X.method, X.code, (X.here.setHeapUsed s₂.heap s₂.slotsUsed).setVm hW'.alike, X.tail, State.WarmedH.trans X.warmed hW', X.limits, X.bytes, X.same.trans (hsame.setVm s.vm)⟩,
      ⟨g, mk, s₂, L, E, ce, rfl, rfl, hx, hce, hcv, hcl, rfl, hL, rfl, rfl⟩, ?_⟩
    show Steps p.tables e below _ (((({ U with heap := s₂.heap, slotsUsed := s₂.slotsUsed } : State).setVm s₂.vm).setTop g).pushFrame (.throwing q))
    rw [← hs₂]
    exact hsteps
end Payer
section Calls
variable {p : Program} {l : Launch} {e : Env} {R : Room} {s : State} {m : MethodId} {args : Array Value} {below : List Frame} {meth : Method} {c : Code} {T : State} {locs : List Loc} {cells slots : Nat}
theorem vx_callV (X : Stand p l e R s m args below meth c T locs cells slots) (hexec : p.tables.exec = Jvm.exec) {own C : String} {index : Nat} {y : MethodName} {bytes : ByteArray} {maxL : Nat} {ret : Option FieldType}
    (hown : s.vm.findClass own = some m.cls) (hlink : (Cond.methodLink own index y).before args s = true) (hinst : (Cond.instanceMethod y).before args s = true) (hsel : (Cond.selects C y y).before args s = true)
    (hcode : (Cond.code y bytes maxL ret).before args s = true) (hy : y.cls ≠ "java/lang/invoke/MethodHandle" ∧ y.cls ≠ "java/lang/invoke/VarHandle")
    {W9 : Nat} {Pre : Pt → Array Value → Prop} {Post : Pt → Array Value → Option Value → Pt → Prop} {PostX : Pt → Array Value → Addr → Pt → Prop} (hK : vx_Back l R p e below s args y 3 W9 Pre Post PostX)
    {b : Addr} {cellB : Cell} (hcell : T.heap[b]? = some cellB) (hobj : cellB.vm.isStatics = false) (hcls : s.vm.findClass C = some cellB.cls)
    {g : JFrame} (hg : g.method = m) (hsize : g.locals.size = c.maxLocals) {argsL rest : List Value} (hlen : ∀ sig, parseMethodDescriptor y.desc = some sig → argsL.length = sig.parameters.length)
    (hstack : g.stack = argsL.reverse ++ .ref b :: rest) (hW : 2 * g.monitorRoom + (rest.map fun v => v.category).sum ≤ W9) (hdg : decode c.code g.pc = .ok (.invokevirtual index, 3))
    (hpre : ∀ vm₁, s.WarmedH vm₁ → Pre ⟨T.setVm vm₁, locs, cells, slots⟩ (Value.ref b :: argsL).toArray) :
    (∃ (v : Option Value) (vm₁ : Vm) (B : Pt), s.WarmedH vm₁ ∧ Stand p l e R s m args below meth c B.U B.locs B.cells B.slots ∧ Post ⟨T.setVm vm₁, locs, cells, slots⟩ (Value.ref b :: argsL).toArray v B ∧
      ∀ target, Steps p.tables e below (B.U.setTop { g with pc := g.pc + 3, stack := v.toList ++ rest }) target → Steps p.tables e below (T.setTop g) target) ∨
    (∃ (q : Addr) (vm₁ : Vm) (B : Pt), s.WarmedH vm₁ ∧ Stand p l e R s m args below meth c B.U B.locs B.cells B.slots ∧ PostX ⟨T.setVm vm₁, locs, cells, slots⟩ (Value.ref b :: argsL).toArray q B ∧
      Steps p.tables e below (T.setTop g) ((B.U.setTop { g with stack := rest }).pushFrame (.throwing q))) := by
  obtain ⟨mk, methM, hnamed, hmethM, hstM, habM⟩ := Cond.instanceMethod_spec hinst
  obtain ⟨methM', cM, hmethM', -, -, -, -, -, -, hsigM⟩ := Cond.code_spec hnamed hcode
  cases hmethM.symm.trans hmethM'
  obtain ⟨c2, r2, m2, q1, q2, q3, q4, kP, hkP, hkPi⟩ := Cond.selects_spec hsel
  cases hcls.symm.trans q1
  cases (State.methodFound?_of_named hnamed hy).symm.trans q2
  cases hnamed.symm.trans q3
  have hselP : selectMethod e.platform s.vm cellB.cls mk = .method mk := by rw [Launch.admits_selectMethod X.admits]; exact q4
  obtain ⟨vm₁, X₁, hstep₁⟩ := X.invokevirtual hexec hown hlink hnamed hmethM hstM hkP hkPi hy (a := b) (cell := cellB) hcell
    (fun z h => by rw [h] at hobj; cases hobj) hselP hmethM habM hkP hkPi (g := g) hg (argsL := argsL) (rest := rest) (hlen _ hsigM) hstack hdg
  rcases hK m meth c ⟨T.setVm vm₁, locs, cells, slots⟩ { g with stack := rest } (.invokevirtual index) mk (Value.ref b :: argsL).toArray X₁ hg hsize hdg hW (X₁.named hnamed) (hpre vm₁ X₁.warmed) with ⟨v, B, X', hpost, hsteps⟩ | ⟨q, B, X', hpost, hsteps⟩
  · exact Or.inl ⟨v, vm₁, B, X₁.warmed, X', hpost, fun target h => hstep₁ _ fun acts => by rw [doInvoke_state]; exact hsteps.trans h⟩
  · exact Or.inr ⟨q, vm₁, B, X₁.warmed, X', hpost, hstep₁ _ fun acts => by rw [doInvoke_state]; exact hsteps⟩
theorem vx_callS (X : Stand p l e R s m args below meth c T locs cells slots) (hexec : p.tables.exec = Jvm.exec) {own : String} {index : Nat} {y : MethodName} {bytes : ByteArray} {maxL : Nat} {ret : Option FieldType}
    (hown : s.vm.findClass own = some m.cls) (hlink : (Cond.methodLink own index y).before args s = true) (hstat : (Cond.static y).before args s = true) (hinit : (Cond.initialized y.cls).before args s = true)
    (hcode : (Cond.code y bytes maxL ret).before args s = true) (hy : y.cls ≠ "java/lang/invoke/MethodHandle" ∧ y.cls ≠ "java/lang/invoke/VarHandle")
    {W9 : Nat} {Pre : Pt → Array Value → Prop} {Post : Pt → Array Value → Option Value → Pt → Prop} {PostX : Pt → Array Value → Addr → Pt → Prop} (hK : vx_Back l R p e below s args y 3 W9 Pre Post PostX)
    {g : JFrame} (hg : g.method = m) (hsize : g.locals.size = c.maxLocals) {argsL rest : List Value} (hlen : ∀ sig, parseMethodDescriptor y.desc = some sig → argsL.length = sig.parameters.length)
    (hstack : g.stack = argsL.reverse ++ rest) (hW : 2 * g.monitorRoom + (rest.map fun v => v.category).sum ≤ W9) (hdg : decode c.code g.pc = .ok (.invokestatic index, 3))
    (hpre : ∀ vm₁, s.WarmedH vm₁ → Pre ⟨T.setVm vm₁, locs, cells, slots⟩ argsL.toArray) :
    (∃ (v : Option Value) (vm₁ : Vm) (B : Pt), s.WarmedH vm₁ ∧ Stand p l e R s m args below meth c B.U B.locs B.cells B.slots ∧ Post ⟨T.setVm vm₁, locs, cells, slots⟩ argsL.toArray v B ∧
      ∀ target, Steps p.tables e below (B.U.setTop { g with pc := g.pc + 3, stack := v.toList ++ rest }) target → Steps p.tables e below (T.setTop g) target) ∨
    (∃ (q : Addr) (vm₁ : Vm) (B : Pt), s.WarmedH vm₁ ∧ Stand p l e R s m args below meth c B.U B.locs B.cells B.slots ∧ PostX ⟨T.setVm vm₁, locs, cells, slots⟩ argsL.toArray q B ∧
      Steps p.tables e below (T.setTop g) ((B.U.setTop { g with stack := rest }).pushFrame (.throwing q))) := by
  obtain ⟨mk, hnamed⟩ := Cond.code_named hcode
  obtain ⟨methM, cM, hmethM, -, -, -, -, -, -, hsigM⟩ := Cond.code_spec hnamed hcode
  have hstatic : methM.isStatic = true := Cond.static_spec hnamed hmethM hstat
  obtain ⟨kP, hkP, -⟩ := className_of_methodNamed hnamed
  have hinitP : kP.init = .initialized := Cond.initialized_spec (findClass_of_methodNamed hnamed) hkP hinit
  obtain ⟨vm₁, X₁, hstep₁⟩ := X.invokestatic hexec hown hlink hnamed hmethM hstatic hkP hinitP hy (g := g) hg (argsL := argsL) (rest := rest) (hlen _ hsigM) hstack hdg
  rcases hK m meth c ⟨T.setVm vm₁, locs, cells, slots⟩ { g with stack := rest } (.invokestatic index) mk argsL.toArray X₁ hg hsize hdg hW (X₁.named hnamed) (hpre vm₁ X₁.warmed) with ⟨v, B, X', hpost, hsteps⟩ | ⟨q, B, X', hpost, hsteps⟩
  · exact Or.inl ⟨v, vm₁, B, X₁.warmed, X', hpost, fun target h => hstep₁ _ fun acts => by rw [doInvoke_state]; exact hsteps.trans h⟩
  · exact Or.inr ⟨q, vm₁, B, X₁.warmed, X', hpost, hstep₁ _ fun acts => by rw [doInvoke_state]; exact hsteps⟩
end Calls
theorem vx_cls {s : State} {T : State} {vm₁ : Vm} {E : String} {k : ClassId} (hW : s.WarmedH vm₁) (h : (T.setVm vm₁).vm.findClass E = some k) : s.vm.findClass E = some k := by
  have h1 : vm₁.findClass E = some k := h
  rw [hW.alike.findClass] at h1
  exact h1
/-- the method's frame g, with q thrown over it -/
def vx_W (p : Program) (l : Launch) (e : Env) (R : Room) (s : State) (m : MethodId) (args : Array Value) (below : List Frame) (meth : Method) (c : Code) (H : Heap) (locs : List Loc) (cells slots : Nat) (Q : State → Prop) (g : JFrame) (q : Addr) : Prop :=
  ∀ T : State, T.heap = H → Stand p l e R s m args below meth c T locs cells slots → ∃ t, Steps p.tables e below ((T.setTop g).pushFrame (.throwing q)) t ∧ Q t
def vx_Run (p : Program) (l : Launch) (e : Env) (R : Room) (s : State) (m : MethodId) (args : Array Value) (below : List Frame) (meth : Method) (c : Code) (H : Heap) (locs : List Loc) (cells slots mc ms : Nat) (g : JFrame) (rest : List Value) (Qa : State → Outcome → State → Prop) (XC : String → State → State → Prop) (free : Addr → Prop) : Prop :=
  ∀ T : State, T.heap = H → Stand p l e R s m args below meth c T locs cells slots →
    (∃ (v : Option Value) (st₀ t T' : State) (L : List Loc), st₀.heap = H ∧ Stand p l e R s m args below meth c T' (locs ++ L) (cells + mc) (slots + ms) ∧ (∀ q ∈ L, free q.base) ∧ T'.heap = t.heap ∧ T'.vm = t.vm ∧ Qa st₀ (.returned v) t ∧
      Goes p e below T g T' { g with pc := g.pc + 3, stack := v.toList ++ rest }) ∨
    (∃ (q : Addr) (st₀ t T' : State) (L : List Loc) (E : String) (ce : Cell), st₀.heap = H ∧ Stand p l e R s m args below meth c T' (locs ++ L) (cells + mc) (slots + ms) ∧ (∀ z ∈ L, free z.base) ∧ T'.heap = t.heap ∧ T'.vm = t.vm ∧ XC E st₀ t ∧ t.heap[q]? = some ce ∧ ce.vm = .none ∧ s.vm.findClass E = some ce.cls ∧
      Steps p.tables e below (T.setTop g) ((T'.setTop { g with stack := rest }).pushFrame (.throwing q)))
def vx_X {S : Type} (px : S → Prop) (B : String → S → State → Prop) (A : Nat → Prop) : String → State → State → Prop := fun E st t => ∃ u : S, px u ∧ B E u t ∧ va_F A st t
section Runs
variable {p : Program} {l : Launch} {e : Env} {R : Room} {s : State} {m : MethodId} {args : Array Value} {below : List Frame} {meth : Method} {c : Code} {H : Heap} {locs : List Loc} {cells slots : Nat}
variable {y : MethodName} {bytes cc : ByteArray} {maxL nL mc ms n index : Nat} {ret : Option FieldType} {ws : List Cond} {rm : Room} {Pc : Array Value → State → Prop} {Qc : Array Value → State → Outcome → State → Prop} {XC : String → State → State → Prop} {free : Addr → Prop} {Ts : List Cond} {own C : String} {b : Addr} {As rest : List Value} {g : JFrame}
theorem vx_callBack (cb : CallB R s args own index y bytes maxL ret ws rm mc ms n) (hM : vx_Met l y ws rm Pc Qc XC mc ms free) (hbl : FrameBlind Pc) : vx_Back l R p e below s args y 3 8 (PreOf R mc ms Pc) (PostOf Qc mc ms free) (vx_Post XC mc ms free) := by
  obtain ⟨hrc, hrs, hfr, hlo, hws, hcw, -, hini, -⟩ := cb
  exact vx_back (bytes := bytes) (maxL := maxL) (ret := ret) hM hbl hrc hrs hfr hlo hws hcw (fun a' U hW => word_at hW (Or.inl (by first | rfl | simp [Cond.onTables, Cond.keeps, Cond.steady])) hini)
theorem vx_runV (S : CallFix p m c cc nL s args Ts own) (hM : vx_Met l y ws rm Pc Qc XC mc ms free) (cw : CallW R s args own C index y bytes maxL ret ws rm mc ms n) (hp : PreV s H C b Pc As)
    (hg : g.method = m) (hn : As.length = n) (hsize : g.locals.size = nL) (hstack : g.stack = As.reverse ++ .ref b :: rest) (hW : 2 * g.monitorRoom + (rest.map fun v => v.category).sum ≤ 8) (hdg : decode cc g.pc = .ok (.invokevirtual index, 3)) (hf : cells + mc ≤ R.cells ∧ slots + ms ≤ R.slots) :
    vx_Run p l e R s m args below meth c H locs cells slots mc ms g rest (Qc (Value.ref b :: As).toArray) XC free := by
  have hK : vx_Back l R p e below s args y 3 8 (PreOf R mc ms Pc) (PostOf Qc mc ms free) (vx_Post XC mc ms free) := vx_callBack cw.1 hM hp.1
  obtain ⟨⟨-, -, -, -, -, -, hcode, -, hy, hlen, hl⟩, hin, hse⟩ := cw
  obtain ⟨hx, hb, hml, ho, -⟩ := S
  obtain ⟨-, ⟨cellB, hcB, hoB, hclB⟩, hPc⟩ := hp
  intro T hT X
  rcases vx_callV X hx (C := C) (bytes := bytes) (maxL := maxL) (ret := ret) ho hl hin hse hcode hy hK (by rw [hT]; exact hcB) hoB hclB hg (hsize.trans hml.symm) (argsL := As) (rest := rest) (fun sig h => hn.trans (hlen sig h)) hstack hW (by rw [hb]; exact hdg)
    (fun vm₁ hW₁ => ⟨hf.1, hf.2, hPc (T.setVm vm₁) hT hW₁⟩) with ⟨v, vm₁, ⟨U', l2, c2, s2⟩, hW₁, X', ⟨g', mk, t, L, e1, e2, hq, h1, hL, h2, h3⟩, st⟩ | ⟨q, vm₁, ⟨U', l2, c2, s2⟩, hW₁, X', ⟨g', mk, t, L, E, ce, e1, e2, hq, hce, hcv, hcl, h1, hL, h2, h3⟩, st⟩
  · dsimp only [Pt.U, Pt.locs, Pt.cells, Pt.slots] at X' e1 e2 h1 h2 h3 st
    subst h1; subst h2; subst h3
    exact Or.inl ⟨v, (T.setVm vm₁).calling g' mk (Value.ref b :: As).toArray, t, U', L, hT, X', hL, e1, e2, hq, st⟩
  · dsimp only [Pt.U, Pt.locs, Pt.cells, Pt.slots] at X' e1 e2 h1 h2 h3 st hcl
    subst h1; subst h2; subst h3
    exact Or.inr ⟨q, (T.setVm vm₁).calling g' mk (Value.ref b :: As).toArray, t, U', L, E, ce, hT, X', hL, e1, e2, hq, hce, hcv, vx_cls hW₁ hcl, st⟩
theorem vx_runS (S : CallFix p m c cc nL s args Ts own) (hM : vx_Met l y ws rm Pc Qc XC mc ms free) (cw : CallB R s args own index y bytes maxL ret ws rm mc ms n ∧ (Cond.static y).before args s = true) (hp : PreS s H Pc As)
    (hg : g.method = m) (hn : As.length = n) (hsize : g.locals.size = nL) (hstack : g.stack = As.reverse ++ rest) (hW : 2 * g.monitorRoom + (rest.map fun v => v.category).sum ≤ 8) (hdg : decode cc g.pc = .ok (.invokestatic index, 3)) (hf : cells + mc ≤ R.cells ∧ slots + ms ≤ R.slots) :
    vx_Run p l e R s m args below meth c H locs cells slots mc ms g rest (Qc As.toArray) XC free := by
  have hK : vx_Back l R p e below s args y 3 8 (PreOf R mc ms Pc) (PostOf Qc mc ms free) (vx_Post XC mc ms free) := vx_callBack cw.1 hM hp.1
  obtain ⟨⟨-, -, -, -, -, -, hcode, hini, hy, hlen, hl⟩, hstt⟩ := cw
  obtain ⟨hx, hb, hml, ho, -⟩ := S
  intro T hT X
  rcases vx_callS X hx (bytes := bytes) (maxL := maxL) (ret := ret) ho hl hstt hini hcode hy hK hg (hsize.trans hml.symm) (argsL := As) (rest := rest) (fun sig h => hn.trans (hlen sig h)) hstack hW (by rw [hb]; exact hdg)
    (fun vm₁ hW₁ => ⟨hf.1, hf.2, hp.2 (T.setVm vm₁) hT hW₁⟩) with ⟨v, vm₁, ⟨U', l2, c2, s2⟩, hW₁, X', ⟨g', mk, t, L, e1, e2, hq, h1, hL, h2, h3⟩, st⟩ | ⟨q, vm₁, ⟨U', l2, c2, s2⟩, hW₁, X', ⟨g', mk, t, L, E, ce, e1, e2, hq, hce, hcv, hcl, h1, hL, h2, h3⟩, st⟩
  · dsimp only [Pt.U, Pt.locs, Pt.cells, Pt.slots] at X' e1 e2 h1 h2 h3 st
    subst h1; subst h2; subst h3
    exact Or.inl ⟨v, (T.setVm vm₁).calling g' mk As.toArray, t, U', L, hT, X', hL, e1, e2, hq, st⟩
  · dsimp only [Pt.U, Pt.locs, Pt.cells, Pt.slots] at X' e1 e2 h1 h2 h3 st hcl
    subst h1; subst h2; subst h3
    exact Or.inr ⟨q, (T.setVm vm₁).calling g' mk As.toArray, t, U', L, E, ce, hT, X', hL, e1, e2, hq, hce, hcv, vx_cls hW₁ hcl, st⟩
end Runs
section Rows
variable {p : Program} {l : Launch} {e : Env} {R : Room} {s : State} {m : MethodId} {args : Array Value} {below : List Frame} {meth : Method} {c : Code} {H : Heap} {locs : List Loc} {cells slots : Nat} {Q : State → Prop}
variable {mc ms : Nat} {free : Addr → Prop} {A0 A1 : Nat → Prop} {H0 : Heap} {a : Array Value} {pc : Nat} {ls : Array Slot} {st0 rest : List Value}
theorem vx_keep {st₀ t T' : State} {L : List Loc} (h0 : st₀.heap = H) (e1 : T'.heap = t.heap) (hS : va_S A0 H0 H locs) (hA : ∀ q, q < H.size → A1 q → A0 q) (hf : ∀ q, free q → A0 q) (hL : ∀ q ∈ L, free q.base) (hF : va_F A1 st₀ t) :
    H.size ≤ T'.heap.size ∧ (∀ q : Nat, q < H.size → ¬ A1 q → T'.heap[q]? = H[q]?) ∧ va_S A0 H0 T'.heap (locs ++ L) := by
  obtain ⟨hz, hk⟩ := hF
  rw [h0] at hz hk
  exact ⟨by rw [e1]; exact hz, fun q h1 h2 => by rw [e1]; exact hk q h1 h2,
    ⟨Nat.le_trans hS.1 (by rw [e1]; exact hz), fun q h1 h2 => by rw [e1, hk q (Nat.lt_of_lt_of_le h1 hS.1) (fun z => h2 (hA q (Nat.lt_of_lt_of_le h1 hS.1) z))]; exact hS.2.1 q h1 h2, fun q hq => by
      rcases List.mem_append.mp hq with h | h
      · exact hS.2.2 q h
      · exact hf _ (hL q h)⟩⟩
theorem vx_calli {S SX : Type} {post : Int32 → S → Prop} {px : SX → Prop} {B : S → State → Prop} {BX : String → SX → State → Prop} {AX : Nat → Prop} (hr : vx_Run p l e R s m args below meth c H locs cells slots mc ms (F0 m pc ls st0) rest (va_Qi post B A1 a) (vx_X px BX AX) free) (hS : va_S A0 H0 H locs) (hA : ∀ q, q < H.size → A1 q → A0 q) (hf : ∀ q, free q → A0 q) (hAX : ∀ q, q < H.size → AX q → A0 q)
    (kx : ∀ (E : String) (ce : Cell) (q9 : Addr) (u : SX) (t : State) (H1 : Heap) (locs1 : List Loc), t.heap = H1 → s.vm.Alike t.vm → px u → BX E u t → H.size ≤ H1.size → (∀ q : Nat, q < H.size → ¬ AX q → H1[q]? = H[q]?) → va_S A0 H0 H1 locs1 → H1[q9]? = some ce → ce.vm = .none → s.vm.findClass E = some ce.cls → vx_W p l e R s m args below meth c H1 locs1 (cells + mc) (slots + ms) Q (F0 m pc ls rest) q9)
    (kk : ∀ (r : Int32) (u : S) (t : State) (H1 : Heap) (locs1 : List Loc), t.heap = H1 → s.vm.Alike t.vm → post r u → B u t → H.size ≤ H1.size → (∀ q : Nat, q < H.size → ¬ A1 q → H1[q]? = H[q]?) → va_S A0 H0 H1 locs1 → W p l e R s m args below meth c H1 locs1 (cells + mc) (slots + ms) Q (F0 m (pc + 3) ls (.int r :: rest))) : W p l e R s m args below meth c H locs cells slots Q (F0 m pc ls st0) := by
  intro T hT X
  rcases hr T hT X with ⟨v, st₀, t, T', L, h0, X', hL, e1, e2, ⟨⟨r, u, hv, hp, hb⟩, hF⟩, st⟩ | ⟨q, st₀, t, T', L, E, ce, h0, X', hL, e1, e2, ⟨u, hp, hb, hF⟩, hce, hcv, hcl, st⟩
  · cases hv
    obtain ⟨k1, k2, k3⟩ := vx_keep h0 e1 hS hA hf hL hF
    obtain ⟨t2, a1, b1⟩ := kk r u t T'.heap (locs ++ L) e1.symm (by rw [← e2]; exact X'.warmed.alike) hp hb k1 k2 k3 T' rfl X'
    exact ⟨t2, st t2 a1, b1⟩
  · obtain ⟨k1, k2, k3⟩ := vx_keep h0 e1 hS hAX hf hL hF
    obtain ⟨t2, a1, b1⟩ := kx E ce q u t T'.heap (locs ++ L) e1.symm (by rw [← e2]; exact X'.warmed.alike) hp hb k1 k2 k3 (by rw [e1]; exact hce) hcv hcl T' rfl X'
    exact ⟨t2, st.trans a1, b1⟩
theorem vx_calll {S SX : Type} {post : Int64 → S → Prop} {px : SX → Prop} {B : S → State → Prop} {BX : String → SX → State → Prop} {AX : Nat → Prop} (hr : vx_Run p l e R s m args below meth c H locs cells slots mc ms (F0 m pc ls st0) rest (va_Ql post B A1 a) (vx_X px BX AX) free) (hS : va_S A0 H0 H locs) (hA : ∀ q, q < H.size → A1 q → A0 q) (hf : ∀ q, free q → A0 q) (hAX : ∀ q, q < H.size → AX q → A0 q)
    (kx : ∀ (E : String) (ce : Cell) (q9 : Addr) (u : SX) (t : State) (H1 : Heap) (locs1 : List Loc), t.heap = H1 → s.vm.Alike t.vm → px u → BX E u t → H.size ≤ H1.size → (∀ q : Nat, q < H.size → ¬ AX q → H1[q]? = H[q]?) → va_S A0 H0 H1 locs1 → H1[q9]? = some ce → ce.vm = .none → s.vm.findClass E = some ce.cls → vx_W p l e R s m args below meth c H1 locs1 (cells + mc) (slots + ms) Q (F0 m pc ls rest) q9)
    (kk : ∀ (r : Int64) (u : S) (t : State) (H1 : Heap) (locs1 : List Loc), t.heap = H1 → s.vm.Alike t.vm → post r u → B u t → H.size ≤ H1.size → (∀ q : Nat, q < H.size → ¬ A1 q → H1[q]? = H[q]?) → va_S A0 H0 H1 locs1 → W p l e R s m args below meth c H1 locs1 (cells + mc) (slots + ms) Q (F0 m (pc + 3) ls (.long r :: rest))) : W p l e R s m args below meth c H locs cells slots Q (F0 m pc ls st0) := by
  intro T hT X
  rcases hr T hT X with ⟨v, st₀, t, T', L, h0, X', hL, e1, e2, ⟨⟨r, u, hv, hp, hb⟩, hF⟩, st⟩ | ⟨q, st₀, t, T', L, E, ce, h0, X', hL, e1, e2, ⟨u, hp, hb, hF⟩, hce, hcv, hcl, st⟩
  · cases hv
    obtain ⟨k1, k2, k3⟩ := vx_keep h0 e1 hS hA hf hL hF
    obtain ⟨t2, a1, b1⟩ := kk r u t T'.heap (locs ++ L) e1.symm (by rw [← e2]; exact X'.warmed.alike) hp hb k1 k2 k3 T' rfl X'
    exact ⟨t2, st t2 a1, b1⟩
  · obtain ⟨k1, k2, k3⟩ := vx_keep h0 e1 hS hAX hf hL hF
    obtain ⟨t2, a1, b1⟩ := kx E ce q u t T'.heap (locs ++ L) e1.symm (by rw [← e2]; exact X'.warmed.alike) hp hb k1 k2 k3 (by rw [e1]; exact hce) hcv hcl T' rfl X'
    exact ⟨t2, st.trans a1, b1⟩
theorem vx_callf {S SX : Type} {post : UInt32 → S → Prop} {px : SX → Prop} {B : S → State → Prop} {BX : String → SX → State → Prop} {AX : Nat → Prop} (hr : vx_Run p l e R s m args below meth c H locs cells slots mc ms (F0 m pc ls st0) rest (va_Qf post B A1 a) (vx_X px BX AX) free) (hS : va_S A0 H0 H locs) (hA : ∀ q, q < H.size → A1 q → A0 q) (hf : ∀ q, free q → A0 q) (hAX : ∀ q, q < H.size → AX q → A0 q)
    (kx : ∀ (E : String) (ce : Cell) (q9 : Addr) (u : SX) (t : State) (H1 : Heap) (locs1 : List Loc), t.heap = H1 → s.vm.Alike t.vm → px u → BX E u t → H.size ≤ H1.size → (∀ q : Nat, q < H.size → ¬ AX q → H1[q]? = H[q]?) → va_S A0 H0 H1 locs1 → H1[q9]? = some ce → ce.vm = .none → s.vm.findClass E = some ce.cls → vx_W p l e R s m args below meth c H1 locs1 (cells + mc) (slots + ms) Q (F0 m pc ls rest) q9)
    (kk : ∀ (r : UInt32) (u : S) (t : State) (H1 : Heap) (locs1 : List Loc), t.heap = H1 → s.vm.Alike t.vm → post r u → B u t → H.size ≤ H1.size → (∀ q : Nat, q < H.size → ¬ A1 q → H1[q]? = H[q]?) → va_S A0 H0 H1 locs1 → W p l e R s m args below meth c H1 locs1 (cells + mc) (slots + ms) Q (F0 m (pc + 3) ls (.float r :: rest))) : W p l e R s m args below meth c H locs cells slots Q (F0 m pc ls st0) := by
  intro T hT X
  rcases hr T hT X with ⟨v, st₀, t, T', L, h0, X', hL, e1, e2, ⟨⟨r, u, hv, hp, hb⟩, hF⟩, st⟩ | ⟨q, st₀, t, T', L, E, ce, h0, X', hL, e1, e2, ⟨u, hp, hb, hF⟩, hce, hcv, hcl, st⟩
  · cases hv
    obtain ⟨k1, k2, k3⟩ := vx_keep h0 e1 hS hA hf hL hF
    obtain ⟨t2, a1, b1⟩ := kk r u t T'.heap (locs ++ L) e1.symm (by rw [← e2]; exact X'.warmed.alike) hp hb k1 k2 k3 T' rfl X'
    exact ⟨t2, st t2 a1, b1⟩
  · obtain ⟨k1, k2, k3⟩ := vx_keep h0 e1 hS hAX hf hL hF
    obtain ⟨t2, a1, b1⟩ := kx E ce q u t T'.heap (locs ++ L) e1.symm (by rw [← e2]; exact X'.warmed.alike) hp hb k1 k2 k3 (by rw [e1]; exact hce) hcv hcl T' rfl X'
    exact ⟨t2, st.trans a1, b1⟩
theorem vx_calld {S SX : Type} {post : UInt64 → S → Prop} {px : SX → Prop} {B : S → State → Prop} {BX : String → SX → State → Prop} {AX : Nat → Prop} (hr : vx_Run p l e R s m args below meth c H locs cells slots mc ms (F0 m pc ls st0) rest (va_Qd post B A1 a) (vx_X px BX AX) free) (hS : va_S A0 H0 H locs) (hA : ∀ q, q < H.size → A1 q → A0 q) (hf : ∀ q, free q → A0 q) (hAX : ∀ q, q < H.size → AX q → A0 q)
    (kx : ∀ (E : String) (ce : Cell) (q9 : Addr) (u : SX) (t : State) (H1 : Heap) (locs1 : List Loc), t.heap = H1 → s.vm.Alike t.vm → px u → BX E u t → H.size ≤ H1.size → (∀ q : Nat, q < H.size → ¬ AX q → H1[q]? = H[q]?) → va_S A0 H0 H1 locs1 → H1[q9]? = some ce → ce.vm = .none → s.vm.findClass E = some ce.cls → vx_W p l e R s m args below meth c H1 locs1 (cells + mc) (slots + ms) Q (F0 m pc ls rest) q9)
    (kk : ∀ (r : UInt64) (u : S) (t : State) (H1 : Heap) (locs1 : List Loc), t.heap = H1 → s.vm.Alike t.vm → post r u → B u t → H.size ≤ H1.size → (∀ q : Nat, q < H.size → ¬ A1 q → H1[q]? = H[q]?) → va_S A0 H0 H1 locs1 → W p l e R s m args below meth c H1 locs1 (cells + mc) (slots + ms) Q (F0 m (pc + 3) ls (.double r :: rest))) : W p l e R s m args below meth c H locs cells slots Q (F0 m pc ls st0) := by
  intro T hT X
  rcases hr T hT X with ⟨v, st₀, t, T', L, h0, X', hL, e1, e2, ⟨⟨r, u, hv, hp, hb⟩, hF⟩, st⟩ | ⟨q, st₀, t, T', L, E, ce, h0, X', hL, e1, e2, ⟨u, hp, hb, hF⟩, hce, hcv, hcl, st⟩
  · cases hv
    obtain ⟨k1, k2, k3⟩ := vx_keep h0 e1 hS hA hf hL hF
    obtain ⟨t2, a1, b1⟩ := kk r u t T'.heap (locs ++ L) e1.symm (by rw [← e2]; exact X'.warmed.alike) hp hb k1 k2 k3 T' rfl X'
    exact ⟨t2, st t2 a1, b1⟩
  · obtain ⟨k1, k2, k3⟩ := vx_keep h0 e1 hS hAX hf hL hF
    obtain ⟨t2, a1, b1⟩ := kx E ce q u t T'.heap (locs ++ L) e1.symm (by rw [← e2]; exact X'.warmed.alike) hp hb k1 k2 k3 (by rw [e1]; exact hce) hcv hcl T' rfl X'
    exact ⟨t2, st.trans a1, b1⟩
theorem vx_callv {S SX : Type} {post : S → Prop} {px : SX → Prop} {B : S → State → Prop} {BX : String → SX → State → Prop} {AX : Nat → Prop} (hr : vx_Run p l e R s m args below meth c H locs cells slots mc ms (F0 m pc ls st0) rest (va_Qv post B A1 a) (vx_X px BX AX) free) (hS : va_S A0 H0 H locs) (hA : ∀ q, q < H.size → A1 q → A0 q) (hf : ∀ q, free q → A0 q) (hAX : ∀ q, q < H.size → AX q → A0 q)
    (kx : ∀ (E : String) (ce : Cell) (q9 : Addr) (u : SX) (t : State) (H1 : Heap) (locs1 : List Loc), t.heap = H1 → s.vm.Alike t.vm → px u → BX E u t → H.size ≤ H1.size → (∀ q : Nat, q < H.size → ¬ AX q → H1[q]? = H[q]?) → va_S A0 H0 H1 locs1 → H1[q9]? = some ce → ce.vm = .none → s.vm.findClass E = some ce.cls → vx_W p l e R s m args below meth c H1 locs1 (cells + mc) (slots + ms) Q (F0 m pc ls rest) q9)
    (kk : ∀ (u : S) (t : State) (H1 : Heap) (locs1 : List Loc), t.heap = H1 → s.vm.Alike t.vm → post u → B u t → H.size ≤ H1.size → (∀ q : Nat, q < H.size → ¬ A1 q → H1[q]? = H[q]?) → va_S A0 H0 H1 locs1 → W p l e R s m args below meth c H1 locs1 (cells + mc) (slots + ms) Q (F0 m (pc + 3) ls (rest))) : W p l e R s m args below meth c H locs cells slots Q (F0 m pc ls st0) := by
  intro T hT X
  rcases hr T hT X with ⟨v, st₀, t, T', L, h0, X', hL, e1, e2, ⟨⟨u, hv, hp, hb⟩, hF⟩, st⟩ | ⟨q, st₀, t, T', L, E, ce, h0, X', hL, e1, e2, ⟨u, hp, hb, hF⟩, hce, hcv, hcl, st⟩
  · cases hv
    obtain ⟨k1, k2, k3⟩ := vx_keep h0 e1 hS hA hf hL hF
    obtain ⟨t2, a1, b1⟩ := kk u t T'.heap (locs ++ L) e1.symm (by rw [← e2]; exact X'.warmed.alike) hp hb k1 k2 k3 T' rfl X'
    exact ⟨t2, st t2 a1, b1⟩
  · obtain ⟨k1, k2, k3⟩ := vx_keep h0 e1 hS hAX hf hL hF
    obtain ⟨t2, a1, b1⟩ := kx E ce q u t T'.heap (locs ++ L) e1.symm (by rw [← e2]; exact X'.warmed.alike) hp hb k1 k2 k3 (by rw [e1]; exact hce) hcv hcl T' rfl X'
    exact ⟨t2, st.trans a1, b1⟩
/-- caught by the row x of this method's table; the rows ahead don't take it -/
theorem vx_catch {own name : String} {E : String} {ce : Cell} {q : Addr} (hown : s.vm.findClass own = some m.cls) (pre : List ExceptionTableEntry) (x : ExceptionTableEntry) (suf : List ExceptionTableEntry) (hsplit : c.exceptionTable.toList = pre ++ x :: suf)
    (hpass : ∀ z ∈ pre, covers z pc = false ∨ (z.catchType ≠ 0 ∧ ∃ nm : String, (Cond.classLink own z.catchType nm).before args s = true ∧ va_Nc E nm s)) (hx : covers x pc = true) (h0 : x.catchType ≠ 0)
    (hlink : (Cond.classLink own x.catchType name).before args s = true) (hcast : (Cond.castable E name).before args s = true) (hcell : H[q]? = some ce) (hv : ce.vm = .none) (hcl : s.vm.findClass E = some ce.cls)
    (kk : W p l e R s m args below meth c H locs cells slots Q (F0 m x.handlerPc ls [.ref q])) : vx_W p l e R s m args below meth c H locs cells slots Q (F0 m pc ls rest) q := by
  intro T hT X
  have hpl : e.platform.magicAccessors = ({} : Platform).magicAccessors := by rw [X.admits.platform]
  obtain ⟨c3, c4, hc3, hc4, hasg⟩ := Cond.castable_spec hcast
  cases Option.some.inj (hc3.symm.trans hcl)
  obtain ⟨c5, hc5, hcl5⟩ := Cond.classLink_spec hown hlink e.platform hpl
  cases Option.some.inj (hc4.symm.trans hc5)
  obtain ⟨vm', X', st⟩ := X.thenCaughtThrough q (g := F0 m pc ls rest) rfl (Steps.refl _) (by rw [hT]; exact hcell) (by rw [hv]; rfl) (by obtain ⟨k9, h9, -⟩ := Vm.findClass_spec hcl; exact ⟨k9, h9⟩) pre x suf hsplit
    (fun z hz => by
      rcases hpass z hz with h | ⟨hz0, nm, hl1, hn1⟩
      · exact Or.inl h
      · obtain ⟨c6, hc6, hcl6⟩ := Cond.classLink_spec hown hl1 e.platform hpl
        obtain ⟨a8, b8, h1, h2, h3⟩ := hn1
        cases Option.some.inj (h1.symm.trans hcl)
        cases Option.some.inj (h2.symm.trans hc6)
        exact Or.inr ⟨hz0, _, hcl6, h3⟩) hx (Or.inr ⟨h0, c4, hcl5, hasg⟩)
  obtain ⟨t, a1, b1⟩ := kk (T.setVm vm') hT X'
  exact ⟨t, st.trans a1, b1⟩
end Rows
section Ends
variable {p : Program} {l : Launch} {e : Env} {R : Room} {s : State} {m : MethodId} {args : Array Value} {below : List Frame} {meth : Method} {c : Code} {H : Heap} {locs : List Loc} {cells slots : Nat} {Q : State → Prop}
variable {mc ms : Nat} {free : Addr → Prop} {A0 A1 : Nat → Prop} {H0 : Heap} {a : Array Value} {ls : Array Slot} {st0 rest : List Value}
variable {Qc : Array Value → State → Outcome → State → Prop} {XC : String → State → State → Prop}
/-- what a body that may throw owes at its end -/
def vx_MQ (below : List Frame) (Qc : Array Value → State → Outcome → State → Prop) (XC : String → State → State → Prop) (a : Array Value) (s : State) (mc ms : Nat) (free : Addr → Prop) : State → Prop := fun t =>
  ∃ o, t.status = .running ∧ Ended t below o ∧ vx_Q Qc XC mc ms free a s o t
theorem vx_ret {g : JFrame} {mc ms : Nat} (k : W p l e R s m args below meth c H locs cells slots (MQ below Qc args s mc ms free) g) : W p l e R s m args below meth c H locs cells slots (vx_MQ below Qc XC args s mc ms free) g := by
  intro T hT X
  obtain ⟨t, a1, o, b1, b2, b3, b4⟩ := k T hT X
  exact ⟨t, a1, o, b1, b2, Or.inl ⟨b3, b4⟩⟩
/-- not caught here: it goes on to the caller -/
theorem vx_widen {g : JFrame} {q : Addr} {k n : Nat} (h1 : cells ≤ k) (h2 : slots ≤ n) (kk : vx_W p l e R s m args below meth c H locs k n Q g q) : vx_W p l e R s m args below meth c H locs cells slots Q g q := fun T hT X => kk T hT (stand_widen X h1 h2)
theorem vx_out {pc : Nat} {E : String} {ce : Cell} {q : Addr} {mc ms : Nat} (hout : ∀ x ∈ c.exceptionTable.toList, covers x pc = false) (hlocks : meth.locks = false) (hcell : H[q]? = some ce) (hv : ce.vm = .none) (hcl : s.vm.findClass E = some ce.cls)
    (hx : ∀ t : State, t.heap = H → s.vm.Alike t.vm → XC E s t) (hf : ∀ z ∈ locs, free z.base) (hc : cells ≤ mc) (hs : slots ≤ ms) :
    vx_W p l e R s m args below meth c H locs cells slots (vx_MQ below Qc XC args s mc ms free) (F0 m pc ls rest) q := by
  intro T hT X
  obtain ⟨st1, hrun, hend, hW, hsm⟩ := X.leaveThrown q (g := F0 m pc ls rest) rfl rfl rfl hout hlocks
  have hcell9 : (T.setFrames (.throwing q :: below)).heap[q]? = some ce := by
    show T.heap[q]? = some ce
    rw [hT]; exact hcell
  exact ⟨_, st1, .threw q, hrun, hend, Or.inr ⟨q, rfl, E, ce, locs, hx _ hT hW.alike, hcell9, hv, hcl, hW, hsm.mono hc hs, hf⟩⟩
theorem vx_frame {U : State} {k n : Nat} (h : s.sameButNew ({ U with vm := s.vm } : State) locs k n) : s.heap.size ≤ U.heap.size ∧ ∀ q : Nat, q < s.heap.size → (∀ z ∈ locs, z.base ≠ q) → U.heap[q]? = s.heap[q]? := by
  obtain ⟨-, h2, -, -, -, h6⟩ := h
  refine ⟨h2, fun q hq hz => ?_⟩
  obtain ⟨c9, e1, e2, e3, e4⟩ := h6 q _ (Array.getElem?_eq_getElem hq)
  have hs : c9.slots = (s.heap[q]).slots := Array.ext_getElem? fun i => e4 i fun hm => hz _ hm rfl
  have h9 : c9 = s.heap[q] := by
    rw [hs] at e2
    exact e2
  have e5 : U.heap[q]? = some c9 := e1
  rw [e5, h9, Array.getElem?_eq_getElem hq]
/-- the words of a throw but the four that speak of the heap -/
def vx_no (w : Cond) : Bool := decide (w ≠ .isRef (.static Bundle.tN "UNASSIGNED_STACK" Bundle.steD)) && decide (w ≠ .isRef (.static Bundle.tN "SUPPRESSED_SENTINEL" Bundle.listD)) && decide (w ≠ .laysStatic Bundle.tN "UNASSIGNED_STACK" Bundle.steD) && decide (w ≠ .laysStatic Bundle.tN "SUPPRESSED_SENTINEL" Bundle.listD)
def vx_at0 (own : String) (ic : Nat) (X : String) (names : List String) : List Cond := (Bundle.ownAtoms0 own ic X names).filter vx_no
def vx_atS (own : String) (ic : Nat) (X : String) (names : List String) : List Cond := (Bundle.ownAtoms own ic X names).filter vx_no
/-- a word that the tables alone decide, or a good one -/
def vx_ot (w : Cond) : Bool := w.onTables || goodWord w
theorem vx_ot_at {args a' : Array Value} {s U : State} {w : Cond} (hW : s.WarmedH U.vm) (hvm : s.vm = U.vm) (hg : vx_ot w = true) (h : w.before args s = true) : w.before a' U = true := by
  simp only [vx_ot, Bool.or_eq_true] at hg
  rcases hg with hg | hg
  · exact va_tabs hg hvm h
  · exact word_at hW (good_of_word hg) h
/-- a list's words: the good ones out of the method's own list, the others by premises of their own -/
theorem vx_hat {args : Array Value} {s : State} {L B : List Cond} (h1 : ∀ w ∈ L.filter goodWord, w.before args s = true) (h2 : ∀ w ∈ L.filter (fun w => !goodWord w), w ∈ B) (h3 : ∀ w ∈ B, w.before args s = true) : ∀ w ∈ L, w.before args s = true := by
  intro w hw
  by_cases g : goodWord w = true
  · exact h1 w (List.mem_filter.mpr ⟨hw, g⟩)
  · refine h3 w (h2 w (List.mem_filter.mpr ⟨hw, ?_⟩))
    show (!goodWord w) = true
    cases hgw : goodWord w
    · rfl
    · exact absurd hgw g
theorem vx_c {args : Array Value} {s : State} {w : Cond} {B : List Cond} (h : w.before args s = true) (t : ∀ w ∈ B, w.before args s = true) : ∀ w' ∈ w :: B, w'.before args s = true := fun w' h' => (List.mem_cons.mp h').elim (fun e => by rw [e]; exact h) (t w')
theorem vx_n {args : Array Value} {s : State} : ∀ w ∈ ([] : List Cond), w.before args s = true := fun _ h => nomatch h
theorem vx_own {args : Array Value} {s : State} {L : List Cond} (h1 : ∀ w ∈ L.filter vx_no, w.before args s = true)
    (hU : (Cond.isRef (.static Bundle.tN "UNASSIGNED_STACK" Bundle.steD)).before args s = true) (hN : (Cond.isRef (.static Bundle.tN "SUPPRESSED_SENTINEL" Bundle.listD)).before args s = true)
    (lU : (Cond.laysStatic Bundle.tN "UNASSIGNED_STACK" Bundle.steD).before args s = true) (lN : (Cond.laysStatic Bundle.tN "SUPPRESSED_SENTINEL" Bundle.listD).before args s = true) : ∀ w ∈ L, w.before args s = true := by
  intro w hw
  by_cases e1 : w = .isRef (.static Bundle.tN "UNASSIGNED_STACK" Bundle.steD)
  · rw [e1]; exact hU
  · by_cases e2 : w = .isRef (.static Bundle.tN "SUPPRESSED_SENTINEL" Bundle.listD)
    · rw [e2]; exact hN
    · by_cases e3 : w = .laysStatic Bundle.tN "UNASSIGNED_STACK" Bundle.steD
      · rw [e3]; exact lU
      · by_cases e4 : w = .laysStatic Bundle.tN "SUPPRESSED_SENTINEL" Bundle.listD
        · rw [e4]; exact lN
        · exact h1 w (List.mem_filter.mpr ⟨hw, by unfold vx_no; rw [decide_eq_true e1, decide_eq_true e2, decide_eq_true e3, decide_eq_true e4]; rfl⟩)
/-- where a static field lies, its class's statics cell in H -/
def vx_L (C n d : String) (A : Nat → Prop) (U : State) (H : Heap) : Prop := ∃ (c : ClassId) (k : Class) (i : Nat) (f : Field) (a : Nat) (cell : Cell), U.vm.findClass C = some c ∧ U.fieldFound? C n d = some (c, k, i, f) ∧ f.isStatic = true ∧ k.statics = some a ∧ H[a]? = some cell ∧ cell.vm.isStatics = true ∧ cell.cls = c ∧ f.slot < cell.slots.size ∧ k.staticTypes[f.slot]? = some f.type ∧ ¬ A a
theorem vx_L.moved {C n d : String} {A : Nat → Prop} {u U : State} {H : Heap} (hvm : u.vm.Alike U.vm) (h : vx_L C n d A u H) : vx_L C n d A U H := by
  obtain ⟨c, k, i, f, a, cell, h1, h2, h3, h4, h5, h6, h7, h8, h9, h10⟩ := h
  obtain ⟨k', hi', he⟩ := State.fieldFound?_setVm hvm h2
  exact ⟨c, k', i, f, a, cell, by rw [hvm.findClass]; exact h1, hi', h3, by rw [he]; exact h4, h5, h6, h7, h8, by rw [he]; exact h9, h10⟩
theorem vx_L.kept {C n d : String} {A : Nat → Prop} {U : State} {H H1 : Heap} (h : vx_L C n d A U H) (hq : ∀ a : Nat, a < H.size → ¬ A a → H1[a]? = H[a]?) : vx_L C n d A U H1 := by
  obtain ⟨c, k, i, f, a, cell, h1, h2, h3, h4, h5, h6, h7, h8, h9, h10⟩ := h
  exact ⟨c, k, i, f, a, cell, h1, h2, h3, h4, by rw [hq a (Array.getElem?_eq_some_iff.mp h5).1 h10]; exact h5, h6, h7, h8, h9, h10⟩
theorem vx_L.narrow {C n d : String} {A B : Nat → Prop} {U : State} {H : Heap} (h : vx_L C n d A U H) (hAB : ∀ q, B q → A q) : vx_L C n d B U H := by
  obtain ⟨c, k, i, f, a, cell, h1, h2, h3, h4, h5, h6, h7, h8, h9, h10⟩ := h
  exact ⟨c, k, i, f, a, cell, h1, h2, h3, h4, h5, h6, h7, h8, h9, fun z => h10 (hAB _ z)⟩
theorem vx_L.word {C n d : String} {A : Nat → Prop} {s : State} {args : Array Value} (h : vx_L C n d A s s.heap) : (Cond.laysStatic C n d).before args s = true := by
  obtain ⟨c, k, i, f, a, cell, h1, h2, h3, h4, h5, h6, h7, h8, h9, -⟩ := h
  show (Cond.laysStatic C n d).holds args s none s [] = true
  exact Cond.laysStatic_of h1 h2 h3 h4 h5 h6 h7 h8 h9
/-- .. and what it holds: null or some reference -/
def vx_Zq (C n d : String) (A : Nat → Prop) (U : State) (H : Heap) : Prop := va_Zq C n d A U H ∧ vx_L C n d A U H
theorem vx_Zq.moved {C n d : String} {A : Nat → Prop} {u U : State} {H : Heap} (hvm : u.vm.Alike U.vm) (h : vx_Zq C n d A u H) : vx_Zq C n d A U H := ⟨va_Zq.moved hvm h.1, vx_L.moved hvm h.2⟩
theorem vx_Zq.kept {C n d : String} {A : Nat → Prop} {U : State} {H H1 : Heap} (h : vx_Zq C n d A U H) (hq : ∀ a : Nat, a < H.size → ¬ A a → H1[a]? = H[a]?) : vx_Zq C n d A U H1 := ⟨va_Zq.kept h.1 hq, vx_L.kept h.2 hq⟩
theorem vx_Zq.narrow {C n d : String} {A B : Nat → Prop} {U : State} {H : Heap} (h : vx_Zq C n d A U H) (hAB : ∀ q, B q → A q) : vx_Zq C n d B U H := ⟨va_Zq.narrow h.1 hAB, vx_L.narrow h.2 hAB⟩
theorem vx_Zqof {args : Array Value} {s : State} {C n d : String} {A : Nat → Prop} (hl : (Cond.laysStatic C n d).before args s = true) (hini : (Cond.initialized C).before args s = true) (h : (Cond.isRef (.static C n d)).before args s = true) (hA : ∀ a : Nat, a < s.heap.size → ¬ A a) : vx_Zq C n d A s s.heap := by
  refine ⟨va_Zqof hl hini h hA, ?_⟩
  obtain ⟨c, k, i, f, a, cell, h1, h2, h3, h4, h5, h6, h7, h8, h9⟩ := Cond.laysStatic_spec hl
  exact ⟨c, k, i, f, a, cell, h1, h2, h3, h4, h5, h6, h7, h8, h9, hA a (Array.getElem?_eq_some_iff.mp h5).1⟩
theorem vx_isRef {C n d : String} {v : Value} {A : Nat → Prop} {s : State} {args : Array Value} (h : va_Z C n d v A s s.heap) (hv : v.isRef = true) : (Cond.isRef (.static C n d)).before args s = true := by
  obtain ⟨cf, kf, fi, f, a, cell, h1, h2, h3, h4, h5, h6, h7, -⟩ := h
  have he : (Term.static C n d).eval args s none [] s = some v := by
    simp [Term.eval, State.fieldNamed?, h1, h2, h4, h5, h6, h7]
  simp only [Cond.before, Cond.holds, Cond.value, he]
  cases v <;> simp_all [Value.isRef]
theorem vx_isRefq {C n d : String} {A : Nat → Prop} {s : State} {args : Array Value} (h : va_Zq C n d A s s.heap) : (Cond.isRef (.static C n d)).before args s = true := by
  rcases h with h | ⟨t, h⟩
  · exact vx_isRef h rfl
  · exact vx_isRef h rfl
/-- the same frame, seen from here: as if the method were called anew in this heap -/
theorem vx_rebase {T : State} (X : Stand p l e R s m args below meth c T locs cells slots) {R' : Room} (hf : R'.frames ≤ R.frames) (hl : R'.locals ≤ R.locals) (hc : cells + R'.cells ≤ R.cells) (hs : slots + R'.slots ≤ R.slots) :
    Stand p l e R' ((T.setVm s.vm).setFrames (.invoking m args :: below)) m args below meth c T [] 0 0 := by
  have htop : (T.setVm s.vm).topJava?.isSome := X.here.top
  have hF : ((T.setVm s.vm).setFrames (.invoking m args :: below)).frames = .invoking m args :: below := State.frames_setFrames _ (State.cur_lt_of_top htop)
  obtain ⟨g₀, hg0⟩ := Option.isSome_iff_exists.mp htop
  obtain ⟨r, hr⟩ := State.topJava?_eq_some.mp hg0
  have hl9 : e.platform.stackLimits (T.setVm s.vm).me = e.platform.stackLimits s.me := X.limits
  have hb9 : (T.setVm s.vm).me.stackBytes = s.me.stackBytes := X.bytes
  refine ⟨X.admits, X.cas, X.clock, hF, ?_, X.hears, X.method, X.code, X.here, X.tail, X.warmed, ?_, ?_, ?_⟩
  · have h := X.room
    have hU : ((T.setVm s.vm).setFrames (.invoking m args :: below)).localsInUse = s.localsInUse := by
      rw [State.localsInUse_invoking hF (meth := meth) (c := c) X.method X.code, State.localsInUse_invoking X.frames X.method X.code]
    simp only [State.hasRoom, Bool.and_eq_true, decide_eq_true_eq] at h ⊢
    obtain ⟨⟨⟨⟨h1, h2, h3, h4, h5, h6⟩, h7⟩, h8⟩, h9⟩ := h
    rw [X.frames, List.length_cons] at h2 h3
    have q1 := X.heapSize
    have q2 := X.used
    simp only [hF, hU, List.length_cons, State.stackLimits_setFrames, State.stackBytes_setFrames, hl9, hb9]
    refine ⟨⟨⟨⟨by omega, by omega, by omega, by omega, by omega, h6⟩, ?_⟩, ?_⟩, X.book⟩
    · show T.heap.size + R'.cells ≤ e.platform.maxCells
      omega
    · show T.slotsUsed + R'.slots ≤ e.platform.maxSlots
      omega
  · rw [State.stackLimits_setFrames]; rfl
  · rw [State.stackBytes_setFrames]; rfl
  · refine ⟨?_, Nat.le_refl _, Nat.le_refl _, ?_, ?_, fun a c9 h9 => ⟨c9, h9, rfl, rfl, fun _ _ => rfl⟩⟩
    · obtain ⟨t, ht, -⟩ := State.frames_cons hr
      show T.setVm s.vm = { ((T.setVm s.vm).setFrames (.invoking m args :: below)).setFrames (T.setVm s.vm).frames with heap := T.heap, slotsUsed := T.slotsUsed }
      rw [State.setFrames_setFrames, State.setFrames_self ht]
      rfl
    · show T.slotsUsed = T.slotsUsed + ((T.heap.toList.drop T.heap.size).map (·.slots.size)).sum
      rw [List.drop_eq_nil_of_le (Nat.le_of_eq Array.length_toList)]
      rfl
    · show ((T.heap.toList.drop T.heap.size).map (·.slots.size)).sum ≤ 0
      rw [List.drop_eq_nil_of_le (Nat.le_of_eq Array.length_toList)]
      exact Nat.le_refl _
/-- 'throw new E()': new; dup; invokespecial; athrow -/
theorem vx_throw0 {cc : ByteArray} {pc : Nat} (hexec : p.tables.exec = Jvm.exec) (hb : c.code = cc) (hl : l.stackTraces = false) {own cls : String} {names : List String} {ik ic mc ms : Nat} {A : Nat → Prop}
    (hown : s.vm.findClass own = some m.cls) (hcls : Bundle.fit cls = true) (hnames : ∀ n ∈ names, Bundle.fit n = true)
    (hk : (Cond.classLink own ik cls).before args s = true) (hini : (Cond.initialized cls).before args s = true) (hat : ∀ w ∈ vx_at0 own ic cls names, w.before args s = true)
    (hgood : ∀ w ∈ Cond.classLink own ik cls :: Cond.initialized cls :: vx_at0 own ic cls names, vx_ot w = true)
    (hU : vx_Zq Bundle.tN "UNASSIGNED_STACK" Bundle.steD A s s.heap) (hN : vx_Zq Bundle.tN "SUPPRESSED_SENTINEL" Bundle.listD A s s.heap) (hS : va_S A s.heap H locs) (hsize : ls.size = c.maxLocals)
    (d0 : decode cc pc = .ok (.new ik, 3)) (d3 : decode cc (pc + 3) = .ok (.dup, 1)) (d4 : decode cc (pc + 4) = .ok (.invokespecial ic, 3)) (d7 : decode cc (pc + 7) = .ok (.athrow, 1))
    (hout : ∀ x ∈ c.exceptionTable.toList, covers x (pc + 7) = false)
    (hRframes : names.length + 3 < R.frames) (hRlocals : (rest.map fun v => v.category).sum + (13 * (names.length + 1) + 42) ≤ R.locals) (hRcells : cells + 1 ≤ R.cells) (hRslots : slots + 6 ≤ R.slots) (hlocks : meth.locks = false)
    (hx : ∀ t : State, s.vm.Alike t.vm → H.size ≤ t.heap.size → (∀ q : Nat, q < H.size → t.heap[q]? = H[q]?) → XC cls s t)
    (hf : ∀ z ∈ locs, free z.base) (hc : cells + 1 ≤ mc) (hs : slots + 6 ≤ ms) :
    W p l e R s m args below meth c H locs cells slots (vx_MQ below Qc XC args s mc ms free) (F0 m pc ls rest) := by
  intro T hT X
  have htr : e.platform.stackTraces = false := (show e.platform.stackTraces = l.stackTraces by rw [X.admits.platform]).trans hl
  have Y := vx_rebase X (R' := { frames := R.frames, locals := R.locals, cells := 1, slots := 6 }) (Nat.le_refl _) (Nat.le_refl _) hRcells hRslots
  obtain ⟨s', hA⟩ : ∃ z, z = (T.setVm s.vm).setFrames (.invoking m args :: below) := ⟨_, rfl⟩
  rw [← hA] at Y
  have hvm : s'.vm = s.vm := by rw [hA]; rfl
  have hhp : s'.heap = H := by rw [hA]; exact hT
  have hW0 : s.WarmedH s'.vm := by rw [hvm]; exact State.WarmedH.refl s
  have hat' : ∀ w ∈ vx_at0 own ic cls names, w.before args s' = true := fun w hw => vx_ot_at hW0 hvm.symm (hgood w (List.mem_cons_of_mem _ (List.mem_cons_of_mem _ hw))) (hat w hw)
  have hk' : (Cond.classLink own ik cls).before args s' = true := vx_ot_at hW0 hvm.symm (hgood _ List.mem_cons_self) hk
  have hini' : (Cond.initialized cls).before args s' = true := vx_ot_at hW0 hvm.symm (hgood _ (List.mem_cons_of_mem _ List.mem_cons_self)) hini
  have hU' : vx_Zq Bundle.tN "UNASSIGNED_STACK" Bundle.steD A s' s'.heap := by rw [hhp]; exact vx_Zq.moved hW0.alike (hU.kept hS.2.1)
  have hN' : vx_Zq Bundle.tN "SUPPRESSED_SENTINEL" Bundle.listD A s' s'.heap := by rw [hhp]; exact vx_Zq.moved hW0.alike (hN.kept hS.2.1)
  have h : ∀ w ∈ Bundle.ownAtoms0 own ic cls names, w.before args s' = true := vx_own hat' (vx_isRefq hU'.1) (vx_isRefq hN'.1) hU'.2.word hN'.2.word
  have hown' : s'.vm.findClass own = some m.cls := by rw [hvm]; exact hown
  have hins : (Cond.instantiable cls 6).before args s' = true := h _ (by simp [Bundle.ownAtoms0])
  obtain ⟨vm₁, cX, kX, hfX, hkX, -, -, X₁, st1⟩ := Y.newCold hexec (own := own) (C := cls) (index := ik) (n := 6) hown' hk' hins hini'
    (g := F0 m pc ls rest) rfl (by rw [hb]; exact d0) (Nat.le_refl _) (Nat.le_refl _)
  generalize hT1 : (T.setVm vm₁).pushCell { cls := cX, slots := kX.instanceTypes.map defaultValue, vm := .none } = T1 at X₁ st1
  have hcat : (Value.ref T.heap.size).category = 1 := rfl
  have hcellA : T1.heap[T.heap.size]? = some (freshCell cX kX) := by rw [← hT1]; exact State.heap_pushCell_size _ _
  have d3' : decode c.code (pc + 3) = .ok (.dup, 1) := by rw [hb]; exact d3
  obtain ⟨U, hsteps, hrun, hend, hW, hsame, ce, hce, hO⟩ := X₁.ctorThrow0 hexec htr (own := own) (cls := cls) (names := names) (ic := ic) hown' hcls hnames h (fun x hx => nomatch hx) hfX hkX hcellA (by rw [hhp, hT]; exact Nat.le_refl _)
    (g := { method := m, pc := pc + 4, locals := ls, stack := .ref T.heap.size :: .ref T.heap.size :: rest, locked := none }) rfl hsize rfl rfl (rest := rest) rfl
    (by rw [hb]; exact d4) (by rw [hb]; exact d7) hout hRframes (by simp only [List.map_cons, List.sum_cons, hcat]; omega) hlocks
  obtain ⟨f1, f2⟩ := vx_frame hsame
  rw [hhp] at f1 f2
  have hWs : s.WarmedH U.vm := State.WarmedH.trans hW0 hW
  have hcl : s.vm.findClass cls = some ce.cls := by
    have h9 := hO.cls
    rw [hvm] at h9
    exact h9
  have hall : s.sameButNew ({ U with vm := s.vm } : State) locs mc ms := by
    subst hA
    obtain ⟨e1, e2⟩ := hsame
    rw [State.setFrames_setFrames] at e1
    have h2 : (T.setVm s.vm).sameButNew ({ U with vm := s.vm } : State) [] (0 + 1) (0 + 6) := ⟨e1, e2⟩
    have h3 := X.same.trans h2
    rw [List.append_nil] at h3
    exact h3.mono hc hs
  refine ⟨U, ?_, .threw T.heap.size, hrun, hend, Or.inr ⟨T.heap.size, rfl, cls, ce, locs, hx U hWs.alike f1 (fun q hq => f2 q hq (fun z hz => nomatch hz)), hce, hO.vm, hcl, hWs, hall, hf⟩⟩
  refine st1 _ ?_
  show Steps p.tables e below (T1.setTop { method := m, pc := pc + 3, locals := ls, stack := .ref T.heap.size :: rest, locked := none }) _
  jvm_step X₁.here [X₁.here.top, hexec, d3', Value.category]
  exact hsteps
/-- 'throw new E("text")': new; dup; ldc; invokespecial; athrow -/
theorem vx_throwS {cc : ByteArray} {pc : Nat} (hexec : p.tables.exec = Jvm.exec) (hb : c.code = cc) (hl : l.stackTraces = false) {own cls text : String} {names : List String} {ik is ic mc ms sa : Nat} {A : Nat → Prop}
    (hown : s.vm.findClass own = some m.cls) (hcls : Bundle.fit cls = true) (hnames : ∀ n ∈ names, Bundle.fit n = true)
    (hk : (Cond.classLink own ik cls).before args s = true) (hini : (Cond.initialized cls).before args s = true) (hstr : vk_R own is text sa s) (hat : ∀ w ∈ vx_atS own ic cls names, w.before args s = true)
    (hgood : ∀ w ∈ Cond.classLink own ik cls :: Cond.initialized cls :: vx_atS own ic cls names, vx_ot w = true)
    (hU : vx_Zq Bundle.tN "UNASSIGNED_STACK" Bundle.steD A s s.heap) (hN : vx_Zq Bundle.tN "SUPPRESSED_SENTINEL" Bundle.listD A s s.heap) (hS : va_S A s.heap H locs) (hsize : ls.size = c.maxLocals)
    (d0 : decode cc pc = .ok (.new ik, 3)) (d3 : decode cc (pc + 3) = .ok (.dup, 1)) (d4 : decode cc (pc + 4) = .ok (.ldc is, 2)) (d6 : decode cc (pc + 6) = .ok (.invokespecial ic, 3)) (d9 : decode cc (pc + 9) = .ok (.athrow, 1))
    (hout : ∀ x ∈ c.exceptionTable.toList, covers x (pc + 9) = false)
    (hRframes : names.length + 3 < R.frames) (hRlocals : (rest.map fun v => v.category).sum + (13 * (names.length + 1) + 43) ≤ R.locals) (hRcells : cells + 1 ≤ R.cells) (hRslots : slots + 6 ≤ R.slots) (hlocks : meth.locks = false)
    (hx : ∀ t : State, s.vm.Alike t.vm → H.size ≤ t.heap.size → (∀ q : Nat, q < H.size → t.heap[q]? = H[q]?) → XC cls s t)
    (hf : ∀ z ∈ locs, free z.base) (hc : cells + 1 ≤ mc) (hs : slots + 6 ≤ ms) :
    W p l e R s m args below meth c H locs cells slots (vx_MQ below Qc XC args s mc ms free) (F0 m pc ls rest) := by
  intro T hT X
  have htr : e.platform.stackTraces = false := (show e.platform.stackTraces = l.stackTraces by rw [X.admits.platform]).trans hl
  have Y := vx_rebase X (R' := { frames := R.frames, locals := R.locals, cells := 1, slots := 6 }) (Nat.le_refl _) (Nat.le_refl _) hRcells hRslots
  obtain ⟨s', hA⟩ : ∃ z, z = (T.setVm s.vm).setFrames (.invoking m args :: below) := ⟨_, rfl⟩
  rw [← hA] at Y
  have hvm : s'.vm = s.vm := by rw [hA]; rfl
  have hhp : s'.heap = H := by rw [hA]; exact hT
  have hW0 : s.WarmedH s'.vm := by rw [hvm]; exact State.WarmedH.refl s
  have hat' : ∀ w ∈ vx_atS own ic cls names, w.before args s' = true := fun w hw => vx_ot_at hW0 hvm.symm (hgood w (List.mem_cons_of_mem _ (List.mem_cons_of_mem _ hw))) (hat w hw)
  have hk' : (Cond.classLink own ik cls).before args s' = true := vx_ot_at hW0 hvm.symm (hgood _ List.mem_cons_self) hk
  have hini' : (Cond.initialized cls).before args s' = true := vx_ot_at hW0 hvm.symm (hgood _ (List.mem_cons_of_mem _ List.mem_cons_self)) hini
  have hU' : vx_Zq Bundle.tN "UNASSIGNED_STACK" Bundle.steD A s' s'.heap := by rw [hhp]; exact vx_Zq.moved hW0.alike (hU.kept hS.2.1)
  have hN' : vx_Zq Bundle.tN "SUPPRESSED_SENTINEL" Bundle.listD A s' s'.heap := by rw [hhp]; exact vx_Zq.moved hW0.alike (hN.kept hS.2.1)
  have h : ∀ w ∈ Bundle.ownAtoms own ic cls names, w.before args s' = true := vx_own hat' (vx_isRefq hU'.1) (vx_isRefq hN'.1) hU'.2.word hN'.2.word
  have hown' : s'.vm.findClass own = some m.cls := by rw [hvm]; exact hown
  have hins : (Cond.instantiable cls 6).before args s' = true := h _ (by simp [Bundle.ownAtoms])
  obtain ⟨vm₁, cX, kX, hfX, hkX, -, -, X₁, st1⟩ := Y.newCold hexec (own := own) (C := cls) (index := ik) (n := 6) hown' hk' hins hini'
    (g := F0 m pc ls rest) rfl (by rw [hb]; exact d0) (Nat.le_refl _) (Nat.le_refl _)
  generalize hT1 : (T.setVm vm₁).pushCell { cls := cX, slots := kX.instanceTypes.map defaultValue, vm := .none } = T1 at X₁ st1
  have hcat : (Value.ref T.heap.size).category = 1 := rfl
  have hcellA : T1.heap[T.heap.size]? = some (freshCell cX kX) := by rw [← hT1]; exact State.heap_pushCell_size _ _
  have d3' : decode c.code (pc + 3) = .ok (.dup, 1) := by rw [hb]; exact d3
  have d4' : decode c.code (pc + 4) = .ok (.ldc is, 2) := by rw [hb]; exact d4
  have hstr' : vk_R own is text sa s' := vk_R.warm hW0 hstr
  obtain ⟨U, hsteps, hrun, hend, hW, hsame, ce, hce, hO⟩ := X₁.ctorThrowS hexec htr (own := own) (cls := cls) (names := names) (ic := ic) hown' hcls hnames h (fun x hx => nomatch hx) hfX hkX hcellA (by rw [hhp, hT]; exact Nat.le_refl _) (msg := .ref sa) rfl
    (g := { method := m, pc := pc + 6, locals := ls, stack := .ref sa :: .ref T.heap.size :: .ref T.heap.size :: rest, locked := none }) rfl hsize rfl rfl (rest := rest) rfl
    (by rw [hb]; exact d6) (by rw [hb]; exact d9) hout hRframes (by simp only [List.map_cons, List.sum_cons, hcat]; omega) hlocks
  obtain ⟨f1, f2⟩ := vx_frame hsame
  rw [hhp] at f1 f2
  have hWs : s.WarmedH U.vm := State.WarmedH.trans hW0 hW
  have hcl : s.vm.findClass cls = some ce.cls := by
    have h9 := hO.cls
    rw [hvm] at h9
    exact h9
  have hall : s.sameButNew ({ U with vm := s.vm } : State) locs mc ms := by
    subst hA
    obtain ⟨e1, e2⟩ := hsame
    rw [State.setFrames_setFrames] at e1
    have h2 : (T.setVm s.vm).sameButNew ({ U with vm := s.vm } : State) [] (0 + 1) (0 + 6) := ⟨e1, e2⟩
    have h3 := X.same.trans h2
    rw [List.append_nil] at h3
    exact h3.mono hc hs
  refine ⟨U, ?_, .threw T.heap.size, hrun, hend, Or.inr ⟨T.heap.size, rfl, cls, ce, locs, hx U hWs.alike f1 (fun q hq => f2 q hq (fun z hz => nomatch hz)), hce, hO.vm, hcl, hWs, hall, hf⟩⟩
  refine st1 _ ?_
  show Steps p.tables e below (T1.setTop { method := m, pc := pc + 3, locals := ls, stack := .ref T.heap.size :: rest, locked := none }) _
  jvm_step X₁.here [X₁.here.top, hexec, d3', Value.category]
  exact X₁.ldcString hexec (own := own) (text := text) (index := is) (a := sa) hown' hstr'.1 hstr'.2
    (g := { method := m, pc := pc + 4, locals := ls, stack := .ref T.heap.size :: .ref T.heap.size :: rest, locked := none }) rfl d4' _ hsteps
/-- 'throw new E("text")', the text by a wide index -/
theorem vx_throwSW {cc : ByteArray} {pc : Nat} (hexec : p.tables.exec = Jvm.exec) (hb : c.code = cc) (hl : l.stackTraces = false) {own cls text : String} {names : List String} {ik is ic mc ms sa : Nat} {A : Nat → Prop}
    (hown : s.vm.findClass own = some m.cls) (hcls : Bundle.fit cls = true) (hnames : ∀ n ∈ names, Bundle.fit n = true)
    (hk : (Cond.classLink own ik cls).before args s = true) (hini : (Cond.initialized cls).before args s = true) (hstr : vk_R own is text sa s) (hat : ∀ w ∈ vx_atS own ic cls names, w.before args s = true)
    (hgood : ∀ w ∈ Cond.classLink own ik cls :: Cond.initialized cls :: vx_atS own ic cls names, vx_ot w = true)
    (hU : vx_Zq Bundle.tN "UNASSIGNED_STACK" Bundle.steD A s s.heap) (hN : vx_Zq Bundle.tN "SUPPRESSED_SENTINEL" Bundle.listD A s s.heap) (hS : va_S A s.heap H locs) (hsize : ls.size = c.maxLocals)
    (d0 : decode cc pc = .ok (.new ik, 3)) (d3 : decode cc (pc + 3) = .ok (.dup, 1)) (d4 : decode cc (pc + 4) = .ok (.ldc_w is, 3)) (d7 : decode cc (pc + 7) = .ok (.invokespecial ic, 3)) (d10 : decode cc (pc + 10) = .ok (.athrow, 1))
    (hout : ∀ x ∈ c.exceptionTable.toList, covers x (pc + 10) = false)
    (hRframes : names.length + 3 < R.frames) (hRlocals : (rest.map fun v => v.category).sum + (13 * (names.length + 1) + 43) ≤ R.locals) (hRcells : cells + 1 ≤ R.cells) (hRslots : slots + 6 ≤ R.slots) (hlocks : meth.locks = false)
    (hx : ∀ t : State, s.vm.Alike t.vm → H.size ≤ t.heap.size → (∀ q : Nat, q < H.size → t.heap[q]? = H[q]?) → XC cls s t)
    (hf : ∀ z ∈ locs, free z.base) (hc : cells + 1 ≤ mc) (hs : slots + 6 ≤ ms) :
    W p l e R s m args below meth c H locs cells slots (vx_MQ below Qc XC args s mc ms free) (F0 m pc ls rest) := by
  intro T hT X
  have htr : e.platform.stackTraces = false := (show e.platform.stackTraces = l.stackTraces by rw [X.admits.platform]).trans hl
  have Y := vx_rebase X (R' := { frames := R.frames, locals := R.locals, cells := 1, slots := 6 }) (Nat.le_refl _) (Nat.le_refl _) hRcells hRslots
  obtain ⟨s', hA⟩ : ∃ z, z = (T.setVm s.vm).setFrames (.invoking m args :: below) := ⟨_, rfl⟩
  rw [← hA] at Y
  have hvm : s'.vm = s.vm := by rw [hA]; rfl
  have hhp : s'.heap = H := by rw [hA]; exact hT
  have hW0 : s.WarmedH s'.vm := by rw [hvm]; exact State.WarmedH.refl s
  have hat' : ∀ w ∈ vx_atS own ic cls names, w.before args s' = true := fun w hw => vx_ot_at hW0 hvm.symm (hgood w (List.mem_cons_of_mem _ (List.mem_cons_of_mem _ hw))) (hat w hw)
  have hk' : (Cond.classLink own ik cls).before args s' = true := vx_ot_at hW0 hvm.symm (hgood _ List.mem_cons_self) hk
  have hini' : (Cond.initialized cls).before args s' = true := vx_ot_at hW0 hvm.symm (hgood _ (List.mem_cons_of_mem _ List.mem_cons_self)) hini
  have hU' : vx_Zq Bundle.tN "UNASSIGNED_STACK" Bundle.steD A s' s'.heap := by rw [hhp]; exact vx_Zq.moved hW0.alike (hU.kept hS.2.1)
  have hN' : vx_Zq Bundle.tN "SUPPRESSED_SENTINEL" Bundle.listD A s' s'.heap := by rw [hhp]; exact vx_Zq.moved hW0.alike (hN.kept hS.2.1)
  have h : ∀ w ∈ Bundle.ownAtoms own ic cls names, w.before args s' = true := vx_own hat' (vx_isRefq hU'.1) (vx_isRefq hN'.1) hU'.2.word hN'.2.word
  have hown' : s'.vm.findClass own = some m.cls := by rw [hvm]; exact hown
  have hins : (Cond.instantiable cls 6).before args s' = true := h _ (by simp [Bundle.ownAtoms])
  obtain ⟨vm₁, cX, kX, hfX, hkX, -, -, X₁, st1⟩ := Y.newCold hexec (own := own) (C := cls) (index := ik) (n := 6) hown' hk' hins hini'
    (g := F0 m pc ls rest) rfl (by rw [hb]; exact d0) (Nat.le_refl _) (Nat.le_refl _)
  generalize hT1 : (T.setVm vm₁).pushCell { cls := cX, slots := kX.instanceTypes.map defaultValue, vm := .none } = T1 at X₁ st1
  have hcat : (Value.ref T.heap.size).category = 1 := rfl
  have hcellA : T1.heap[T.heap.size]? = some (freshCell cX kX) := by rw [← hT1]; exact State.heap_pushCell_size _ _
  have d3' : decode c.code (pc + 3) = .ok (.dup, 1) := by rw [hb]; exact d3
  have d4' : decode c.code (pc + 4) = .ok (.ldc_w is, 3) := by rw [hb]; exact d4
  have hstr' : vk_R own is text sa s' := vk_R.warm hW0 hstr
  obtain ⟨U, hsteps, hrun, hend, hW, hsame, ce, hce, hO⟩ := X₁.ctorThrowS hexec htr (own := own) (cls := cls) (names := names) (ic := ic) hown' hcls hnames h (fun x hx => nomatch hx) hfX hkX hcellA (by rw [hhp, hT]; exact Nat.le_refl _) (msg := .ref sa) rfl
    (g := { method := m, pc := pc + 7, locals := ls, stack := .ref sa :: .ref T.heap.size :: .ref T.heap.size :: rest, locked := none }) rfl hsize rfl rfl (rest := rest) rfl
    (by rw [hb]; exact d7) (by rw [hb]; exact d10) hout hRframes (by simp only [List.map_cons, List.sum_cons, hcat]; omega) hlocks
  obtain ⟨f1, f2⟩ := vx_frame hsame
  rw [hhp] at f1 f2
  have hWs : s.WarmedH U.vm := State.WarmedH.trans hW0 hW
  have hcl : s.vm.findClass cls = some ce.cls := by
    have h9 := hO.cls
    rw [hvm] at h9
    exact h9
  have hall : s.sameButNew ({ U with vm := s.vm } : State) locs mc ms := by
    subst hA
    obtain ⟨e1, e2⟩ := hsame
    rw [State.setFrames_setFrames] at e1
    have h2 : (T.setVm s.vm).sameButNew ({ U with vm := s.vm } : State) [] (0 + 1) (0 + 6) := ⟨e1, e2⟩
    have h3 := X.same.trans h2
    rw [List.append_nil] at h3
    exact h3.mono hc hs
  refine ⟨U, ?_, .threw T.heap.size, hrun, hend, Or.inr ⟨T.heap.size, rfl, cls, ce, locs, hx U hWs.alike f1 (fun q hq => f2 q hq (fun z hz => nomatch hz)), hce, hO.vm, hcl, hWs, hall, hf⟩⟩
  refine st1 _ ?_
  show Steps p.tables e below (T1.setTop { method := m, pc := pc + 3, locals := ls, stack := .ref T.heap.size :: rest, locked := none }) _
  jvm_step X₁.here [X₁.here.top, hexec, d3', Value.category]
  exact X₁.ldcStringW hexec (own := own) (text := text) (index := is) (a := sa) hown' hstr'.1 hstr'.2
    (g := { method := m, pc := pc + 4, locals := ls, stack := .ref T.heap.size :: .ref T.heap.size :: rest, locked := none }) rfl d4' _ hsteps
end Ends
section Bodies
variable {l : Launch}
theorem vx_ofW {y : MethodName} {ws ws' : List Cond} {rm : Room} {Pc : Array Value → State → Prop} {Qc : Array Value → State → Outcome → State → Prop} {XC : String → State → State → Prop} {mc ms : Nat} {free : Addr → Prop} {cc : ByteArray} {maxL : Nat} {ret : Option FieldType}
    (hy : plainName y.cls = true) (hw : ws = Cond.code y cc maxL ret :: ws')
    (body : ∀ p e s m args below meth c s₁, BodyLoose p l y (headSpec ws rm) cc maxL ret e s m args below meth c s₁ → c.maxLocals = maxL → (∀ x ∈ c.exceptionTable.toList, False) → Pc args s →
      W p l e (headSpec ws rm).room s m args below meth c s.heap [] 0 0 (vx_MQ below Qc XC args s mc ms free) (entryFrame m args maxL)) : vx_Met l y ws rm Pc Qc XC mc ms free := by
  refine MetFree.of_bodyS (code := cc) (maxLocals := maxL) (ret := ret) hy ?_ ?_
  · intro args s m h hn
    obtain ⟨meth, c, h1, h2, h3, h4, h5, h6, -, -⟩ := Cond.code_spec hn (atoms_spec (ws := ws) h _ (by rw [hw]; exact List.mem_cons_self))
    exact ⟨meth, c, h1, h2, h3, h4, h5, h6⟩
  · intro p e s m args below meth c s₁ B hml hP _
    have hh0 : s₁.heap = s.heap := by rw [B.state]; rfl
    have ht : ∀ x ∈ c.exceptionTable.toList, False := by
      obtain ⟨meth9, c9, h1, h2, -, -, -, -, h7, -⟩ := Cond.code_spec B.named (atoms_spec (ws := ws) B.pre _ (by rw [hw]; exact List.mem_cons_self))
      cases Option.some.inj (h1.symm.trans B.method)
      cases Option.some.inj (h2.symm.trans (Stand.of_body B).code)
      intro x hx
      rw [Array.isEmpty_iff.mp h7] at hx
      cases hx
    obtain ⟨t, a1, o, b1, b2, b3⟩ := body p e s m args below meth c s₁ B hml ht hP s₁ hh0 (Stand.of_body B)
    exact ⟨t, o, a1, b1, b2, b3⟩
/-- the table of a body with handlers -/
theorem vx_table {p : Program} {x y : MethodName} {S : Spec} {cc bytes : ByteArray} {maxL maxL' : Nat} {ret ret' : Option FieldType} {e : Env} {s s₁ : State} {m : MethodId} {args : Array Value} {below : List Frame} {meth : Method} {c : Code} {hh : List (Nat × Nat × Nat × Nat)}
    (B : BodyLoose p l y S cc maxL ret e s m args below meth c s₁) (h : (Cond.codeWith y bytes maxL' ret' hh).before args s = true) : c.exceptionTable.toList = tableOf hh := by
  obtain ⟨m9, meth9, c9, hn9, h1, h2, -, -, h6, -⟩ := Cond.codeWith_spec h
  cases Option.some.inj (hn9.symm.trans B.named)
  cases Option.some.inj (h1.symm.trans B.method)
  cases Option.some.inj (h2.symm.trans (Stand.of_body B).code)
  rw [← h6, table_eq]
end Bodies
end VXA
/-! ===== END ===== -/
/-! ===== BEGIN a static call of a method with an exception table ===== -/
section VXS
variable {p : Program} {l : Launch} {e : Env} {R : Room} {s : State} {m : MethodId} {args : Array Value} {below : List Frame} {meth : Method} {c : Code} {T : State} {H : Heap} {locs : List Loc} {cells slots : Nat}
abbrev vx_CSW (R : Room) (s : State) (args : Array Value) (own : String) (index : Nat) (y : MethodName) (bytes : ByteArray) (maxL : Nat) (ret : Option FieldType) (hh : List (Nat × Nat × Nat × Nat)) (ws : List Cond) (rm : Room) (mc ms n : Nat) : Prop :=
  (rm.cells = mc ∧ rm.slots = ms ∧ rm.frames + 1 ≤ R.frames ∧ 8 + (maxL + 11) + rm.locals ≤ R.locals ∧ (∀ w ∈ ws, ∀ (a' : Array Value) (U : State), s.WarmedH U.vm → w.before a' U = true) ∧ Cond.codeWith y bytes maxL ret hh ∈ ws) ∧
  (Cond.codeWith y bytes maxL ret hh).before args s = true ∧ (Cond.initialized y.cls).before args s = true ∧ (y.cls ≠ "java/lang/invoke/MethodHandle" ∧ y.cls ≠ "java/lang/invoke/VarHandle") ∧
  (∀ sig, parseMethodDescriptor y.desc = some sig → n = sig.parameters.length) ∧ (Cond.methodLink own index y).before args s = true ∧ (Cond.static y).before args s = true
theorem vx_cwSW {own : String} {index maxL mc ms : Nat} {y : MethodName} {bytes : ByteArray} {ret : Option FieldType} {hh : List (Nat × Nat × Nat × Nat)} {Ts ws ws' : List Cond} {rm : Room} (n : Nat) (ht : ∀ w ∈ Ts, w.before args s = true) (hT : GoodIn Ts (va_wsS own index y ws)) (hw : ws = Cond.codeWith y bytes maxL ret hh :: ws') (hrc : rm.cells = mc) (hrs : rm.slots = ms)
    (hd : y.cls ≠ "java/lang/invoke/MethodHandle" ∧ y.cls ≠ "java/lang/invoke/VarHandle" ∧ (parseMethodDescriptor y.desc).map (fun d => d.parameters.length) = some n) (hR : rm.frames + 1 ≤ R.frames ∧ 8 + (maxL + 11) + rm.locals ≤ R.locals) :
    vx_CSW R s args own index y bytes maxL ret hh ws rm mc ms n := by
  have ok : ∀ w ∈ va_wsS own index y ws, w.before args s = true := fun w h => ht w (hT w h).1
  have hG : GoodIn Ts ws := fun w h => hT w (by unfold va_wsS; exact List.mem_append_right _ h)
  have hc : Cond.codeWith y bytes maxL ret hh ∈ ws := by rw [hw]; exact List.mem_cons_self
  refine ⟨⟨hrc, hrs, hR.1, hR.2, pay_in ht hG, hc⟩, ht _ (hG _ hc).1, ok _ (by simp [va_wsS]), ⟨hd.1, hd.2.1⟩, fun sig h => ?_, ok _ (by simp [va_wsS]), ok _ (by simp [va_wsS])⟩
  have h2 := hd.2.2
  rw [h] at h2
  exact (Option.some.inj h2).symm
theorem vx_callSW (X : Stand p l e R s m args below meth c T locs cells slots) (hexec : p.tables.exec = Jvm.exec) {own : String} {index : Nat} {y : MethodName} {bytes : ByteArray} {maxL : Nat} {ret : Option FieldType} {hh : List (Nat × Nat × Nat × Nat)}
    (hown : s.vm.findClass own = some m.cls) (hlink : (Cond.methodLink own index y).before args s = true) (hstat : (Cond.static y).before args s = true) (hinit : (Cond.initialized y.cls).before args s = true)
    (hcode : (Cond.codeWith y bytes maxL ret hh).before args s = true) (hy : y.cls ≠ "java/lang/invoke/MethodHandle" ∧ y.cls ≠ "java/lang/invoke/VarHandle")
    {W9 : Nat} {Pre : Pt → Array Value → Prop} {Post : Pt → Array Value → Option Value → Pt → Prop} (hK : Back l R p e below s args y 3 W9 Pre Post)
    {g : JFrame} (hg : g.method = m) (hsize : g.locals.size = c.maxLocals) {argsL rest : List Value} (hlen : ∀ sig, parseMethodDescriptor y.desc = some sig → argsL.length = sig.parameters.length)
    (hstack : g.stack = argsL.reverse ++ rest) (hW : 2 * g.monitorRoom + (rest.map fun v => v.category).sum ≤ W9) (hdg : decode c.code g.pc = .ok (.invokestatic index, 3))
    (hpre : ∀ vm₁, s.WarmedH vm₁ → Pre ⟨T.setVm vm₁, locs, cells, slots⟩ argsL.toArray) :
    ∃ (v : Option Value) (vm₁ : Vm) (B : Pt), s.WarmedH vm₁ ∧ Stand p l e R s m args below meth c B.U B.locs B.cells B.slots ∧ Post ⟨T.setVm vm₁, locs, cells, slots⟩ argsL.toArray v B ∧
      ∀ target, Steps p.tables e below (B.U.setTop { g with pc := g.pc + 3, stack := v.toList ++ rest }) target → Steps p.tables e below (T.setTop g) target := by
  obtain ⟨mk, methM, cM, hnamed, hmethM, -, -, -, -, -, -, hsigM⟩ := Cond.codeWith_spec hcode
  have hstatic : methM.isStatic = true := Cond.static_spec hnamed hmethM hstat
  obtain ⟨kP, hkP, -⟩ := className_of_methodNamed hnamed
  have hinitP : kP.init = .initialized := Cond.initialized_spec (findClass_of_methodNamed hnamed) hkP hinit
  obtain ⟨vm₁, X₁, hstep₁⟩ := X.invokestatic hexec hown hlink hnamed hmethM hstatic hkP hinitP hy (g := g) hg (argsL := argsL) (rest := rest) (hlen _ hsigM) hstack hdg
  obtain ⟨v, B, X', hpost, hsteps⟩ := hK m meth c ⟨T.setVm vm₁, locs, cells, slots⟩ { g with stack := rest } (.invokestatic index) mk argsL.toArray X₁ hg hsize hdg hW (X₁.named hnamed) (hpre vm₁ X₁.warmed)
  exact ⟨v, vm₁, B, X₁.warmed, X', hpost, fun target h => hstep₁ _ fun acts => by rw [doInvoke_state]; exact hsteps.trans h⟩
theorem vx_runSW {y : MethodName} {bytes cc : ByteArray} {maxL nL mc ms n index : Nat} {ret : Option FieldType} {hh : List (Nat × Nat × Nat × Nat)} {ws : List Cond} {rm : Room} {Pc : Array Value → State → Prop} {Qc : Array Value → State → Outcome → State → Prop} {free : Addr → Prop} {Ts : List Cond} {own : String} {As rest : List Value} {g : JFrame}
    (S : CallFix p m c cc nL s args Ts own) (hM : Met l y ws rm Pc Qc mc ms free) (cw : vx_CSW R s args own index y bytes maxL ret hh ws rm mc ms n) (hp : PreS s H Pc As)
    (hg : g.method = m) (hn : As.length = n) (hsize : g.locals.size = nL) (hstack : g.stack = As.reverse ++ rest) (hW : 2 * g.monitorRoom + (rest.map fun v => v.category).sum ≤ 8) (hdg : decode cc g.pc = .ok (.invokestatic index, 3)) (hf : cells + mc ≤ R.cells ∧ slots + ms ≤ R.slots) :
    va_Run p l e R s m args below meth c H locs cells slots mc ms g rest (Qc As.toArray) (free) := by
  obtain ⟨⟨hrc, hrs, hfr, hlo, hws, hcw⟩, hcode, hini, hy, hlen, hl, hstt⟩ := cw
  have hK : Back l R p e below s args y 3 8 (PreOf R mc ms Pc) (PostOf Qc mc ms free) := va_backW (hh := hh) (bytes := bytes) (maxL := maxL) (ret := ret) hM hp.1 hrc hrs hfr hlo hws hcw (fun a' U hW => word_at hW (Or.inl (by first | rfl | simp [Cond.onTables, Cond.keeps, Cond.steady])) hini)
  obtain ⟨hx, hb, hml, ho, -⟩ := S
  intro T hT X
  obtain ⟨v, vm₁, ⟨U', l2, c2, s2⟩, hW₁, X', ⟨g', mk, t, L, e1, e2, hq, h1, hL, h2, h3⟩, st⟩ := vx_callSW X hx (hh := hh) (bytes := bytes) (maxL := maxL) (ret := ret) ho hl hstt hini hcode hy hK hg (hsize.trans hml.symm) (argsL := As) (rest := rest) (fun sig h => hn.trans (hlen sig h)) hstack hW (by rw [hb]; exact hdg)
    (fun vm₁ hW₁ => ⟨hf.1, hf.2, hp.2 (T.setVm vm₁) hT hW₁⟩)
  dsimp only [Pt.U, Pt.locs, Pt.cells, Pt.slots] at X' e1 e2 h1 h2 h3 st
  subst h1; subst h2; subst h3
  exact ⟨v, (T.setVm vm₁).calling g' mk As.toArray, t, U', L, hT, X', hL, e1, e2, hq, st⟩
/-- not caught here, past rows that name other classes: it goes on to the caller -/
theorem vx_outP {p : Program} {l : Launch} {e : Env} {R : Room} {s : State} {m : MethodId} {args : Array Value} {below : List Frame} {meth : Method} {c : Code} {H : Heap} {locs : List Loc} {cells slots : Nat} {free : Addr → Prop} {ls : Array Slot} {rest : List Value} {Qc : Array Value → State → Outcome → State → Prop} {XC : String → State → State → Prop}
    {pc : Nat} {own E : String} {ce : Cell} {q : Addr} {mc ms : Nat} (hown : s.vm.findClass own = some m.cls) (hlocks : meth.locks = false)
    (hpass : ∀ z ∈ c.exceptionTable.toList, covers z pc = false ∨ (z.catchType ≠ 0 ∧ ∃ nm : String, (Cond.classLink own z.catchType nm).before args s = true ∧ va_Nc E nm s)) (hcell : H[q]? = some ce) (hv : ce.vm = .none) (hcl : s.vm.findClass E = some ce.cls)
    (hx : ∀ t : State, t.heap = H → s.vm.Alike t.vm → XC E s t) (hf : ∀ z ∈ locs, free z.base) (hc : cells ≤ mc) (hs : slots ≤ ms) :
    vx_W p l e R s m args below meth c H locs cells slots (vx_MQ below Qc XC args s mc ms free) (F0 m pc ls rest) q := by
  intro T hT X
  have hpl : e.platform.magicAccessors = ({} : Platform).magicAccessors := by rw [X.admits.platform]
  obtain ⟨vm', hW', X', st⟩ := X.outThrough hlocks q (g := F0 m pc ls rest) rfl rfl rfl (cell := ce) (by rw [hT]; exact hcell) (by rw [hv]; rfl)
    (by obtain ⟨k9, h9, -⟩ := Vm.findClass_spec hcl; exact ⟨k9, h9⟩) (fun z hz => by
      rcases hpass z hz with h | ⟨hz0, nm, hl1, hn1⟩
      · exact Or.inl h
      · obtain ⟨c6, hc6, hcl6⟩ := Cond.classLink_spec hown hl1 e.platform hpl
        obtain ⟨a8, b8, h1, h2, h3⟩ := hn1
        cases Option.some.inj (h1.symm.trans hcl)
        cases Option.some.inj (h2.symm.trans hc6)
        exact Or.inr ⟨hz0, _, hcl6, h3⟩)
  obtain ⟨g₀, hfr⟩ := X'.frames_eq
  have hcell9 : ((T.setVm vm').setFrames (.throwing q :: below)).heap[q]? = some ce := by
    show T.heap[q]? = some ce
    rw [hT]; exact hcell
  have hend : Ended ((T.setVm vm').setFrames (.throwing q :: below)) below (.threw q) := State.frames_setFrames _ (State.cur_lt_of_frames hfr)
  refine ⟨(T.setVm vm').setFrames (.throwing q :: below), ?_, .threw q, X'.here.running, hend, Or.inr ⟨q, rfl, E, ce, locs, hx _ hT (X'.ends _).1.alike, hcell9, hv, hcl, (X'.ends _).1, (X'.ends _).2.mono hc hs, hf⟩⟩
  rw [X.pushThrowing_eq]
  exact st
/-- a thing of a world lies in the heap -/
theorem vx_lt {D : va_G} {cl : List vw_C} {ws : va_W} {H1 : Heap} (h : va_P D cl ws H1) {k : Nat} {q : Nat × va_E} (hk : ws[k]? = some q) : q.1 < H1.size := (h k q hk).lt
end VXS
/-! ===== END ===== -/
/-! ===== BEGIN methods with a table of their own: called by a name, returning or throwing ===== -/
section VXH
/-! vx_backW, vx_callVX, vx_callSX, vx_callVW, vx_runVW, vx_runVX, vx_runSX, vx_ofWH follow the same proofs as their sisters above (Free/Laws.lean, Shelf42/LK1.lean); vx_outP calls Shelf42/NT130.lean (outThrough). -/
section
variable {l : Launch} {R : Room} {p : Program} {e : Env} {below : List Frame} {s : State} {sargs : Array Value} {y : MethodName} {len W9 : Nat}
theorem vx_backW {ws : List Cond} {rm : Room} {Pc : Array Value → State → Prop} {Qc : Array Value → State → Outcome → State → Prop} {XC : String → State → State → Prop} {mc ms : Nat} {free : Addr → Prop} {bytes : ByteArray} {maxL : Nat} {ret : Option FieldType} {hh : List (Nat × Nat × Nat × Nat)}
    (hM : vx_Met l y ws rm Pc Qc XC mc ms free) (hblind : FrameBlind Pc) (hrc : rm.cells = mc) (hrs : rm.slots = ms)
    (hframes : rm.frames + 1 ≤ R.frames) (hlocals : W9 + (maxL + 11) + rm.locals ≤ R.locals)
    (hws : ∀ w ∈ ws, ∀ a' U, s.WarmedH U.vm → w.before a' U = true) (hcode : Cond.codeWith y bytes maxL ret hh ∈ ws) (hinit : ∀ a' U, s.WarmedH U.vm → (Cond.initialized y.cls).before a' U = true) :
    vx_Back l R p e below s sargs y len W9 (PreOf R mc ms Pc) (PostOf Qc mc ms free) (vx_Post XC mc ms free) := by
  intro m meth c A g ig mk a X hg hsize hdg hW hn hp
  have h1 : (headSpec ws rm).pre.before a A.U = true := atoms_intro fun w hw => hws w hw _ _ X.warmed
  have h2 : (Cond.codeWith y bytes maxL ret hh).before a A.U = true := hws _ hcode _ _ X.warmed
  have h3 : (Cond.initialized y.cls).before a A.U = true := hinit _ _ X.warmed
  have h4 : A.cells + (headSpec ws rm).room.cells ≤ R.cells := by rw [show (headSpec ws rm).room.cells = mc from hrc]; exact hp.1
  have h5 : A.slots + (headSpec ws rm).room.slots ≤ R.slots := by rw [show (headSpec ws rm).room.slots = ms from hrs]; exact hp.2.1
  have hPc : Pc a (A.U.calling g mk a) := hblind _ _ _ _ hp.2.2
  obtain ⟨U, Ls, c0, s0⟩ := A
  dsimp only [Pt.U, Pt.locs, Pt.cells, Pt.slots] at h1 h2 h3 h4 h5 X hn hPc ⊢
  obtain ⟨m9, methY, cY, hn9, hmY, hcY, -, hlY, -⟩ := Cond.codeWith_spec h2
  cases Option.some.inj (hn9.symm.trans hn)
  obtain ⟨kY, hkY, -⟩ := className_of_methodNamed hn
  have hinitY : kY.init = .initialized := Cond.initialized_spec (findClass_of_methodNamed hn) hkY h3
  have h : At U g.method c below := by rw [hg]; exact X.here
  have hlocals9 : W9 + (maxL + 11) + (headSpec ws rm).room.locals ≤ R.locals := hlocals
  have happ : (headSpec ws rm).appliesLoose y e.platform (U.calling g mk a) = true :=
    Spec.appliesLoose_calling (g := g) h hdg hn hkY hinitY
      (X.room_calling (g := g) (R' := (headSpec ws rm).room) hsize hmY hcY hframes (by rw [hlY]; omega) h4 h5) h1
  obtain ⟨mid, hmid⟩ := h.above
  have hfr : (U.setTop g).frames = (.java g :: mid) ++ below := by rw [State.frames_setTop' g h.top, hmid]; rfl
  obtain ⟨o, s₂, hsteps, -, hend, hq⟩ := Steps.callFree hM p X.admits X.cas X.clock (acts := []) hfr happ hPc trivial
  have hq' : vx_Q Qc XC mc ms free a (U.calling g mk a) o s₂ := hq
  rw [State.frames_setTop' g h.top] at hend
  obtain ⟨g₀, hg0⟩ := Option.isSome_iff_exists.mp h.top
  obtain ⟨r, hr⟩ := State.topJava?_eq_some.mp hg0
  have hr' : (({ U with heap := s₂.heap, slotsUsed := s₂.slotsUsed } : State).setVm s₂.vm).frames = .java g₀ :: r := hr
  rcases hq' with ⟨hqc, L, hfe, hL⟩ | ⟨q, rfl, E, ce, L, hx, hce, hcv, hcl, hW₂, hsm, hL⟩
  · obtain ⟨⟨v, rfl⟩, hW₂, e2, q2, q3, q4, q5, q6⟩ := id hfe
    have e3 : s₂ = ({ (U.calling g mk a).setFrames s₂.frames with heap := s₂.heap, slotsUsed := s₂.slotsUsed } : State).setVm s₂.vm := by
      have : s₂ = ({ s₂ with vm := (U.calling g mk a).vm } : State).setVm s₂.vm := rfl
      rw [e2] at this
      exact this
    obtain ⟨c₂, i₂, len₂, hc₂, hd₂, hf₂⟩ := hend
    have hW' : U.WarmedH s₂.vm := hW₂
    have hcc : c₂ = c := by
      have h1 : s₂.code? g.method = U.code? g.method := by
        rw [State.code?_eq, State.code?_eq, hW'.alike.method?]
      exact Option.some.inj (hc₂.symm.trans (h1.trans h.code))
    subst hcc
    have hlen : len₂ = len := by rw [hdg] at hd₂; cases hd₂; rfl
    subst hlen
    have hs₂ : s₂ = (({ U with heap := s₂.heap, slotsUsed := s₂.slotsUsed } : State).setVm s₂.vm).setTop { g with pc := g.pc + len₂, stack := v.toList ++ g.stack } := by
      refine e3.trans ?_
      rw [hf₂, State.calling_eq h.top, State.setFrames_setFrames, State.setTop_of_frames _ hr', hr]
      rfl
    have hsame : U.sameButNew ({ U with heap := s₂.heap, slotsUsed := s₂.slotsUsed } : State) L mc ms := by
      refine ⟨?_, q2, q3, q4, q5, q6⟩
      obtain ⟨t, ht, -⟩ := State.frames_cons hr
      show ({ U with heap := s₂.heap, slotsUsed := s₂.slotsUsed } : State) = { U.setFrames U.frames with heap := s₂.heap, slotsUsed := s₂.slotsUsed }
      rw [State.setFrames_self ht]
    subst hg
    refine Or.inl ⟨v, ⟨(({ U with heap := s₂.heap, slotsUsed := s₂.slotsUsed } : State).setVm s₂.vm), Ls ++ L, c0 + mc, s0 + ms⟩,
      ⟨X.admits, X.cas, X.clock, X.frames, X.room, X.hears, X.method, X.code, (X.here.setHeapUsed s₂.heap s₂.slotsUsed).setVm hW'.alike, X.tail, State.WarmedH.trans X.warmed hW', X.limits, X.bytes, X.same.trans (hsame.setVm s.vm)⟩,
      ⟨g, mk, s₂, L, rfl, rfl, hqc, rfl, hL, rfl, rfl⟩, ?_⟩
    show Steps p.tables e below _ ((({ U with heap := s₂.heap, slotsUsed := s₂.slotsUsed } : State).setVm s₂.vm).setTop { g with pc := g.pc + len₂, stack := v.toList ++ g.stack })
    rw [← hs₂]
    exact hsteps
  · obtain ⟨e2, q2, q3, q4, q5, q6⟩ := id hsm
    have e3 : s₂ = ({ (U.calling g mk a).setFrames s₂.frames with heap := s₂.heap, slotsUsed := s₂.slotsUsed } : State).setVm s₂.vm := by
      have : s₂ = ({ s₂ with vm := (U.calling g mk a).vm } : State).setVm s₂.vm := rfl
      rw [e2] at this
      exact this
    have hf₂ : s₂.frames = .throwing q :: .java g :: U.frames.tail := hend
    have hW' : U.WarmedH s₂.vm := hW₂
    have hs₂ : s₂ = ((({ U with heap := s₂.heap, slotsUsed := s₂.slotsUsed } : State).setVm s₂.vm).setTop g).pushFrame (.throwing q) := by
      refine e3.trans ?_
      rw [hf₂, State.calling_eq h.top, State.setFrames_setFrames, State.pushFrame, State.frames_setTop _ hr', State.setTop_of_frames _ hr', State.setFrames_setFrames, hr]
      rfl
    have hsame : U.sameButNew ({ U with heap := s₂.heap, slotsUsed := s₂.slotsUsed } : State) L mc ms := by
      refine ⟨?_, q2, q3, q4, q5, q6⟩
      obtain ⟨t, ht, -⟩ := State.frames_cons hr
      show ({ U with heap := s₂.heap, slotsUsed := s₂.slotsUsed } : State) = { U.setFrames U.frames with heap := s₂.heap, slotsUsed := s₂.slotsUsed }
      rw [State.setFrames_self ht]
    subst hg
    refine Or.inr ⟨q, ⟨(({ U with heap := s₂.heap, slotsUsed := s₂.slotsUsed } : State).setVm s₂.vm), Ls ++ L, c0 + mc, s0 + ms⟩,
      ⟨X.admits, X.cas, X.clock, X.frames, X.room, X.hears, X.method, X.code, (X.here.setHeapUsed s₂.heap s₂.slotsUsed).setVm hW'.alike, X.tail, State.WarmedH.trans X.warmed hW', X.limits, X.bytes, X.same.trans (hsame.setVm s.vm)⟩,
      ⟨g, mk, s₂, L, E, ce, rfl, rfl, hx, hce, hcv, hcl, rfl, hL, rfl, rfl⟩, ?_⟩
    show Steps p.tables e below _ (((({ U with heap := s₂.heap, slotsUsed := s₂.slotsUsed } : State).setVm s₂.vm).setTop g).pushFrame (.throwing q))
    rw [← hs₂]
    exact hsteps
end
variable {p : Program} {l : Launch} {e : Env} {R : Room} {s : State} {m : MethodId} {args : Array Value} {below : List Frame} {meth : Method} {c : Code} {T : State} {H : Heap} {locs : List Loc} {cells slots : Nat}
theorem vx_callVX (X : Stand p l e R s m args below meth c T locs cells slots) (hexec : p.tables.exec = Jvm.exec) {own C : String} {index : Nat} {y : MethodName} {bytes : ByteArray} {maxL : Nat} {ret : Option FieldType} {hh : List (Nat × Nat × Nat × Nat)}
    (hown : s.vm.findClass own = some m.cls) (hlink : (Cond.methodLink own index y).before args s = true) (hinst : (Cond.instanceMethod y).before args s = true) (hsel : (Cond.selects C y y).before args s = true)
    (hcode : (Cond.codeWith y bytes maxL ret hh).before args s = true) (hy : y.cls ≠ "java/lang/invoke/MethodHandle" ∧ y.cls ≠ "java/lang/invoke/VarHandle")
    {W9 : Nat} {Pre : Pt → Array Value → Prop} {Post : Pt → Array Value → Option Value → Pt → Prop} {PostX : Pt → Array Value → Addr → Pt → Prop} (hK : vx_Back l R p e below s args y 3 W9 Pre Post PostX)
    {b : Addr} {cellB : Cell} (hcell : T.heap[b]? = some cellB) (hobj : cellB.vm.isStatics = false) (hcls : s.vm.findClass C = some cellB.cls)
    {g : JFrame} (hg : g.method = m) (hsize : g.locals.size = c.maxLocals) {argsL rest : List Value} (hlen : ∀ sig, parseMethodDescriptor y.desc = some sig → argsL.length = sig.parameters.length)
    (hstack : g.stack = argsL.reverse ++ .ref b :: rest) (hW : 2 * g.monitorRoom + (rest.map fun v => v.category).sum ≤ W9) (hdg : decode c.code g.pc = .ok (.invokevirtual index, 3))
    (hpre : ∀ vm₁, s.WarmedH vm₁ → Pre ⟨T.setVm vm₁, locs, cells, slots⟩ (Value.ref b :: argsL).toArray) :
    (∃ (v : Option Value) (vm₁ : Vm) (B : Pt), s.WarmedH vm₁ ∧ Stand p l e R s m args below meth c B.U B.locs B.cells B.slots ∧ Post ⟨T.setVm vm₁, locs, cells, slots⟩ (Value.ref b :: argsL).toArray v B ∧
      ∀ target, Steps p.tables e below (B.U.setTop { g with pc := g.pc + 3, stack := v.toList ++ rest }) target → Steps p.tables e below (T.setTop g) target) ∨
    (∃ (q : Addr) (vm₁ : Vm) (B : Pt), s.WarmedH vm₁ ∧ Stand p l e R s m args below meth c B.U B.locs B.cells B.slots ∧ PostX ⟨T.setVm vm₁, locs, cells, slots⟩ (Value.ref b :: argsL).toArray q B ∧
      Steps p.tables e below (T.setTop g) ((B.U.setTop { g with stack := rest }).pushFrame (.throwing q))) := by
  obtain ⟨mk, methM, hnamed, hmethM, hstM, habM⟩ := Cond.instanceMethod_spec hinst
  obtain ⟨m8, methM', cM, hn8, hmethM', -, -, -, -, -, -, hsigM⟩ := Cond.codeWith_spec hcode
  cases Option.some.inj (hn8.symm.trans hnamed)
  cases hmethM.symm.trans hmethM'
  obtain ⟨c2, r2, m2, q1, q2, q3, q4, kP, hkP, hkPi⟩ := Cond.selects_spec hsel
  cases hcls.symm.trans q1
  cases (State.methodFound?_of_named hnamed hy).symm.trans q2
  cases hnamed.symm.trans q3
  have hselP : selectMethod e.platform s.vm cellB.cls mk = .method mk := by rw [Launch.admits_selectMethod X.admits]; exact q4
  obtain ⟨vm₁, X₁, hstep₁⟩ := X.invokevirtual hexec hown hlink hnamed hmethM hstM hkP hkPi hy (a := b) (cell := cellB) hcell
    (fun z h => by rw [h] at hobj; cases hobj) hselP hmethM habM hkP hkPi (g := g) hg (argsL := argsL) (rest := rest) (hlen _ hsigM) hstack hdg
  rcases hK m meth c ⟨T.setVm vm₁, locs, cells, slots⟩ { g with stack := rest } (.invokevirtual index) mk (Value.ref b :: argsL).toArray X₁ hg hsize hdg hW (X₁.named hnamed) (hpre vm₁ X₁.warmed) with ⟨v, B, X', hpost, hsteps⟩ | ⟨q, B, X', hpost, hsteps⟩
  · exact Or.inl ⟨v, vm₁, B, X₁.warmed, X', hpost, fun target h => hstep₁ _ fun acts => by rw [doInvoke_state]; exact hsteps.trans h⟩
  · exact Or.inr ⟨q, vm₁, B, X₁.warmed, X', hpost, hstep₁ _ fun acts => by rw [doInvoke_state]; exact hsteps⟩
theorem vx_callSX (X : Stand p l e R s m args below meth c T locs cells slots) (hexec : p.tables.exec = Jvm.exec) {own : String} {index : Nat} {y : MethodName} {bytes : ByteArray} {maxL : Nat} {ret : Option FieldType} {hh : List (Nat × Nat × Nat × Nat)}
    (hown : s.vm.findClass own = some m.cls) (hlink : (Cond.methodLink own index y).before args s = true) (hstat : (Cond.static y).before args s = true) (hinit : (Cond.initialized y.cls).before args s = true)
    (hcode : (Cond.codeWith y bytes maxL ret hh).before args s = true) (hy : y.cls ≠ "java/lang/invoke/MethodHandle" ∧ y.cls ≠ "java/lang/invoke/VarHandle")
    {W9 : Nat} {Pre : Pt → Array Value → Prop} {Post : Pt → Array Value → Option Value → Pt → Prop} {PostX : Pt → Array Value → Addr → Pt → Prop} (hK : vx_Back l R p e below s args y 3 W9 Pre Post PostX)
    {g : JFrame} (hg : g.method = m) (hsize : g.locals.size = c.maxLocals) {argsL rest : List Value} (hlen : ∀ sig, parseMethodDescriptor y.desc = some sig → argsL.length = sig.parameters.length)
    (hstack : g.stack = argsL.reverse ++ rest) (hW : 2 * g.monitorRoom + (rest.map fun v => v.category).sum ≤ W9) (hdg : decode c.code g.pc = .ok (.invokestatic index, 3))
    (hpre : ∀ vm₁, s.WarmedH vm₁ → Pre ⟨T.setVm vm₁, locs, cells, slots⟩ argsL.toArray) :
    (∃ (v : Option Value) (vm₁ : Vm) (B : Pt), s.WarmedH vm₁ ∧ Stand p l e R s m args below meth c B.U B.locs B.cells B.slots ∧ Post ⟨T.setVm vm₁, locs, cells, slots⟩ argsL.toArray v B ∧
      ∀ target, Steps p.tables e below (B.U.setTop { g with pc := g.pc + 3, stack := v.toList ++ rest }) target → Steps p.tables e below (T.setTop g) target) ∨
    (∃ (q : Addr) (vm₁ : Vm) (B : Pt), s.WarmedH vm₁ ∧ Stand p l e R s m args below meth c B.U B.locs B.cells B.slots ∧ PostX ⟨T.setVm vm₁, locs, cells, slots⟩ argsL.toArray q B ∧
      Steps p.tables e below (T.setTop g) ((B.U.setTop { g with stack := rest }).pushFrame (.throwing q))) := by
  obtain ⟨mk, methM, cM, hnamed, hmethM, -, -, -, -, -, -, hsigM⟩ := Cond.codeWith_spec hcode
  have hstatic : methM.isStatic = true := Cond.static_spec hnamed hmethM hstat
  obtain ⟨kP, hkP, -⟩ := className_of_methodNamed hnamed
  have hinitP : kP.init = .initialized := Cond.initialized_spec (findClass_of_methodNamed hnamed) hkP hinit
  obtain ⟨vm₁, X₁, hstep₁⟩ := X.invokestatic hexec hown hlink hnamed hmethM hstatic hkP hinitP hy (g := g) hg (argsL := argsL) (rest := rest) (hlen _ hsigM) hstack hdg
  rcases hK m meth c ⟨T.setVm vm₁, locs, cells, slots⟩ { g with stack := rest } (.invokestatic index) mk argsL.toArray X₁ hg hsize hdg hW (X₁.named hnamed) (hpre vm₁ X₁.warmed) with ⟨v, B, X', hpost, hsteps⟩ | ⟨q, B, X', hpost, hsteps⟩
  · exact Or.inl ⟨v, vm₁, B, X₁.warmed, X', hpost, fun target h => hstep₁ _ fun acts => by rw [doInvoke_state]; exact hsteps.trans h⟩
  · exact Or.inr ⟨q, vm₁, B, X₁.warmed, X', hpost, hstep₁ _ fun acts => by rw [doInvoke_state]; exact hsteps⟩
theorem vx_callVW (X : Stand p l e R s m args below meth c T locs cells slots) (hexec : p.tables.exec = Jvm.exec) {own C : String} {index : Nat} {y : MethodName} {bytes : ByteArray} {maxL : Nat} {ret : Option FieldType} {hh : List (Nat × Nat × Nat × Nat)}
    (hown : s.vm.findClass own = some m.cls) (hlink : (Cond.methodLink own index y).before args s = true) (hinst : (Cond.instanceMethod y).before args s = true) (hsel : (Cond.selects C y y).before args s = true)
    (hcode : (Cond.codeWith y bytes maxL ret hh).before args s = true) (hy : y.cls ≠ "java/lang/invoke/MethodHandle" ∧ y.cls ≠ "java/lang/invoke/VarHandle")
    {W9 : Nat} {Pre : Pt → Array Value → Prop} {Post : Pt → Array Value → Option Value → Pt → Prop} (hK : Back l R p e below s args y 3 W9 Pre Post)
    {b : Addr} {cellB : Cell} (hcell : T.heap[b]? = some cellB) (hobj : cellB.vm.isStatics = false) (hcls : s.vm.findClass C = some cellB.cls)
    {g : JFrame} (hg : g.method = m) (hsize : g.locals.size = c.maxLocals) {argsL rest : List Value} (hlen : ∀ sig, parseMethodDescriptor y.desc = some sig → argsL.length = sig.parameters.length)
    (hstack : g.stack = argsL.reverse ++ .ref b :: rest) (hW : 2 * g.monitorRoom + (rest.map fun v => v.category).sum ≤ W9) (hdg : decode c.code g.pc = .ok (.invokevirtual index, 3))
    (hpre : ∀ vm₁, s.WarmedH vm₁ → Pre ⟨T.setVm vm₁, locs, cells, slots⟩ (Value.ref b :: argsL).toArray) :
    ∃ (v : Option Value) (vm₁ : Vm) (B : Pt), s.WarmedH vm₁ ∧ Stand p l e R s m args below meth c B.U B.locs B.cells B.slots ∧ Post ⟨T.setVm vm₁, locs, cells, slots⟩ (Value.ref b :: argsL).toArray v B ∧
      ∀ target, Steps p.tables e below (B.U.setTop { g with pc := g.pc + 3, stack := v.toList ++ rest }) target → Steps p.tables e below (T.setTop g) target := by
  obtain ⟨mk, methM, hnamed, hmethM, hstM, habM⟩ := Cond.instanceMethod_spec hinst
  obtain ⟨m8, methM', cM, hn8, hmethM', -, -, -, -, -, -, hsigM⟩ := Cond.codeWith_spec hcode
  cases Option.some.inj (hn8.symm.trans hnamed)
  cases hmethM.symm.trans hmethM'
  obtain ⟨c2, r2, m2, q1, q2, q3, q4, kP, hkP, hkPi⟩ := Cond.selects_spec hsel
  cases hcls.symm.trans q1
  cases (State.methodFound?_of_named hnamed hy).symm.trans q2
  cases hnamed.symm.trans q3
  have hselP : selectMethod e.platform s.vm cellB.cls mk = .method mk := by rw [Launch.admits_selectMethod X.admits]; exact q4
  obtain ⟨vm₁, X₁, hstep₁⟩ := X.invokevirtual hexec hown hlink hnamed hmethM hstM hkP hkPi hy (a := b) (cell := cellB) hcell
    (fun z h => by rw [h] at hobj; cases hobj) hselP hmethM habM hkP hkPi (g := g) hg (argsL := argsL) (rest := rest) (hlen _ hsigM) hstack hdg
  obtain ⟨v, B, X', hpost, hsteps⟩ := hK m meth c ⟨T.setVm vm₁, locs, cells, slots⟩ { g with stack := rest } (.invokevirtual index) mk (Value.ref b :: argsL).toArray X₁ hg hsize hdg hW (X₁.named hnamed) (hpre vm₁ X₁.warmed)
  exact ⟨v, vm₁, B, X₁.warmed, X', hpost, fun target h => hstep₁ _ fun acts => by rw [doInvoke_state]; exact hsteps.trans h⟩
abbrev vx_CVW (R : Room) (s : State) (args : Array Value) (own C : String) (index : Nat) (y : MethodName) (bytes : ByteArray) (maxL : Nat) (ret : Option FieldType) (hh : List (Nat × Nat × Nat × Nat)) (ws : List Cond) (rm : Room) (mc ms n : Nat) : Prop :=
  (rm.cells = mc ∧ rm.slots = ms ∧ rm.frames + 1 ≤ R.frames ∧ 8 + (maxL + 11) + rm.locals ≤ R.locals ∧ (∀ w ∈ ws, ∀ (a' : Array Value) (U : State), s.WarmedH U.vm → w.before a' U = true) ∧ Cond.codeWith y bytes maxL ret hh ∈ ws) ∧
  (Cond.codeWith y bytes maxL ret hh).before args s = true ∧ (Cond.initialized y.cls).before args s = true ∧ (y.cls ≠ "java/lang/invoke/MethodHandle" ∧ y.cls ≠ "java/lang/invoke/VarHandle") ∧
  (∀ sig, parseMethodDescriptor y.desc = some sig → n = sig.parameters.length) ∧ (Cond.methodLink own index y).before args s = true ∧ (Cond.instanceMethod y).before args s = true ∧ (Cond.selects C y y).before args s = true
theorem vx_cwVW {own C : String} {index maxL mc ms : Nat} {y : MethodName} {bytes : ByteArray} {ret : Option FieldType} {hh : List (Nat × Nat × Nat × Nat)} {Ts ws ws' : List Cond} {rm : Room} (n : Nat) (ht : ∀ w ∈ Ts, w.before args s = true) (hT : GoodIn Ts (wsV own index C y ws)) (hw : ws = Cond.codeWith y bytes maxL ret hh :: ws') (hrc : rm.cells = mc) (hrs : rm.slots = ms)
    (hd : y.cls = C ∧ y.cls ≠ "java/lang/invoke/MethodHandle" ∧ y.cls ≠ "java/lang/invoke/VarHandle" ∧ (parseMethodDescriptor y.desc).map (fun d => d.parameters.length) = some n) (hR : rm.frames + 1 ≤ R.frames ∧ 8 + (maxL + 11) + rm.locals ≤ R.locals) :
    vx_CVW R s args own C index y bytes maxL ret hh ws rm mc ms n := by
  obtain ⟨hC, hd⟩ := hd
  subst hC
  have ok : ∀ w ∈ wsV own index y.cls y ws, w.before args s = true := fun w h => ht w (hT w h).1
  have hG : GoodIn Ts ws := fun w h => hT w (by unfold wsV; exact List.mem_append_right _ h)
  have hc : Cond.codeWith y bytes maxL ret hh ∈ ws := by rw [hw]; exact List.mem_cons_self
  refine ⟨⟨hrc, hrs, hR.1, hR.2, pay_in ht hG, hc⟩, ht _ (hG _ hc).1, ok _ (by simp [wsV]), ⟨hd.1, hd.2.1⟩, fun sig h => ?_, ok _ (by simp [wsV]), ok _ (by simp [wsV]), ok _ (by simp [wsV])⟩
  have h2 := hd.2.2
  rw [h] at h2
  exact (Option.some.inj h2).symm
theorem vx_runVW {y : MethodName} {bytes cc : ByteArray} {maxL nL mc ms n index : Nat} {ret : Option FieldType} {hh : List (Nat × Nat × Nat × Nat)} {ws : List Cond} {rm : Room} {Pc : Array Value → State → Prop} {Qc : Array Value → State → Outcome → State → Prop} {free : Addr → Prop} {Ts : List Cond} {own C : String} {b : Addr} {As rest : List Value} {g : JFrame}
    (S : CallFix p m c cc nL s args Ts own) (hM : Met l y ws rm Pc Qc mc ms free) (cw : vx_CVW R s args own C index y bytes maxL ret hh ws rm mc ms n) (hp : PreV s H C b Pc As)
    (hg : g.method = m) (hn : As.length = n) (hsize : g.locals.size = nL) (hstack : g.stack = As.reverse ++ .ref b :: rest) (hW : 2 * g.monitorRoom + (rest.map fun v => v.category).sum ≤ 8) (hdg : decode cc g.pc = .ok (.invokevirtual index, 3)) (hf : cells + mc ≤ R.cells ∧ slots + ms ≤ R.slots) :
    va_Run p l e R s m args below meth c H locs cells slots mc ms g rest (Qc (Value.ref b :: As).toArray) free := by
  obtain ⟨⟨hrc, hrs, hfr, hlo, hws, hcw⟩, hcode, hini, hy, hlen, hl, hin, hse⟩ := cw
  have hK : Back l R p e below s args y 3 8 (PreOf R mc ms Pc) (PostOf Qc mc ms free) := va_backW (hh := hh) (bytes := bytes) (maxL := maxL) (ret := ret) hM hp.1 hrc hrs hfr hlo hws hcw (fun a' U hW => word_at hW (Or.inl (by first | rfl | simp [Cond.onTables, Cond.keeps, Cond.steady])) hini)
  obtain ⟨hx, hb, hml, ho, -⟩ := S
  obtain ⟨-, ⟨cellB, hcB, hoB, hclB⟩, hPc⟩ := hp
  intro T hT X
  obtain ⟨v, vm₁, ⟨U', l2, c2, s2⟩, hW₁, X', ⟨g', mk, t, L, e1, e2, hq, h1, hL, h2, h3⟩, st⟩ := vx_callVW X hx (C := C) (hh := hh) (bytes := bytes) (maxL := maxL) (ret := ret) ho hl hin hse hcode hy hK (by rw [hT]; exact hcB) hoB hclB hg (hsize.trans hml.symm) (argsL := As) (rest := rest) (fun sig h => hn.trans (hlen sig h)) hstack hW (by rw [hb]; exact hdg)
    (fun vm₁ hW₁ => ⟨hf.1, hf.2, hPc (T.setVm vm₁) hT hW₁⟩)
  dsimp only [Pt.U, Pt.locs, Pt.cells, Pt.slots] at X' e1 e2 h1 h2 h3 st
  subst h1; subst h2; subst h3
  exact ⟨v, (T.setVm vm₁).calling g' mk (Value.ref b :: As).toArray, t, U', L, hT, X', hL, e1, e2, hq, st⟩
section
variable {y : MethodName} {bytes cc : ByteArray} {maxL nL mc ms n index : Nat} {ret : Option FieldType} {ws : List Cond} {rm : Room} {Pc : Array Value → State → Prop} {Qc : Array Value → State → Outcome → State → Prop} {XC : String → State → State → Prop} {free : Addr → Prop} {Ts : List Cond} {own C : String} {b : Addr} {As rest : List Value} {g : JFrame}
theorem vx_runVX {hh : List (Nat × Nat × Nat × Nat)} (S : CallFix p m c cc nL s args Ts own) (hM : vx_Met l y ws rm Pc Qc XC mc ms free) (cw : vx_CVW R s args own C index y bytes maxL ret hh ws rm mc ms n) (hp : PreV s H C b Pc As)
    (hg : g.method = m) (hn : As.length = n) (hsize : g.locals.size = nL) (hstack : g.stack = As.reverse ++ .ref b :: rest) (hW : 2 * g.monitorRoom + (rest.map fun v => v.category).sum ≤ 8) (hdg : decode cc g.pc = .ok (.invokevirtual index, 3)) (hf : cells + mc ≤ R.cells ∧ slots + ms ≤ R.slots) :
    vx_Run p l e R s m args below meth c H locs cells slots mc ms g rest (Qc (Value.ref b :: As).toArray) XC free := by
  obtain ⟨⟨hrc, hrs, hfr, hlo, hws, hcw⟩, hcode, hini, hy, hlen, hl, hin, hse⟩ := cw
  have hK : vx_Back l R p e below s args y 3 8 (PreOf R mc ms Pc) (PostOf Qc mc ms free) (vx_Post XC mc ms free) := vx_backW (hh := hh) (bytes := bytes) (maxL := maxL) (ret := ret) hM hp.1 hrc hrs hfr hlo hws hcw (fun a' U hW => word_at hW (Or.inl (by first | rfl | simp [Cond.onTables, Cond.keeps, Cond.steady])) hini)
  obtain ⟨hx, hb, hml, ho, -⟩ := S
  obtain ⟨-, ⟨cellB, hcB, hoB, hclB⟩, hPc⟩ := hp
  intro T hT X
  rcases vx_callVX X hx (C := C) (hh := hh) (bytes := bytes) (maxL := maxL) (ret := ret) ho hl hin hse hcode hy hK (by rw [hT]; exact hcB) hoB hclB hg (hsize.trans hml.symm) (argsL := As) (rest := rest) (fun sig h => hn.trans (hlen sig h)) hstack hW (by rw [hb]; exact hdg)
    (fun vm₁ hW₁ => ⟨hf.1, hf.2, hPc (T.setVm vm₁) hT hW₁⟩) with ⟨v, vm₁, ⟨U', l2, c2, s2⟩, hW₁, X', ⟨g', mk, t, L, e1, e2, hq, h1, hL, h2, h3⟩, st⟩ | ⟨q, vm₁, ⟨U', l2, c2, s2⟩, hW₁, X', ⟨g', mk, t, L, E, ce, e1, e2, hq, hce, hcv, hcl, h1, hL, h2, h3⟩, st⟩
  · dsimp only [Pt.U, Pt.locs, Pt.cells, Pt.slots] at X' e1 e2 h1 h2 h3 st
    subst h1; subst h2; subst h3
    exact Or.inl ⟨v, (T.setVm vm₁).calling g' mk (Value.ref b :: As).toArray, t, U', L, hT, X', hL, e1, e2, hq, st⟩
  · dsimp only [Pt.U, Pt.locs, Pt.cells, Pt.slots] at X' e1 e2 h1 h2 h3 st hcl
    subst h1; subst h2; subst h3
    exact Or.inr ⟨q, (T.setVm vm₁).calling g' mk (Value.ref b :: As).toArray, t, U', L, E, ce, hT, X', hL, e1, e2, hq, hce, hcv, vx_cls hW₁ hcl, st⟩
theorem vx_runSX {hh : List (Nat × Nat × Nat × Nat)} (S : CallFix p m c cc nL s args Ts own) (hM : vx_Met l y ws rm Pc Qc XC mc ms free) (cw : vx_CSW R s args own index y bytes maxL ret hh ws rm mc ms n) (hp : PreS s H Pc As)
    (hg : g.method = m) (hn : As.length = n) (hsize : g.locals.size = nL) (hstack : g.stack = As.reverse ++ rest) (hW : 2 * g.monitorRoom + (rest.map fun v => v.category).sum ≤ 8) (hdg : decode cc g.pc = .ok (.invokestatic index, 3)) (hf : cells + mc ≤ R.cells ∧ slots + ms ≤ R.slots) :
    vx_Run p l e R s m args below meth c H locs cells slots mc ms g rest (Qc As.toArray) XC free := by
  obtain ⟨⟨hrc, hrs, hfr, hlo, hws, hcw⟩, hcode, hini, hy, hlen, hl, hstt⟩ := cw
  have hK : vx_Back l R p e below s args y 3 8 (PreOf R mc ms Pc) (PostOf Qc mc ms free) (vx_Post XC mc ms free) := vx_backW (hh := hh) (bytes := bytes) (maxL := maxL) (ret := ret) hM hp.1 hrc hrs hfr hlo hws hcw (fun a' U hW => word_at hW (Or.inl (by first | rfl | simp [Cond.onTables, Cond.keeps, Cond.steady])) hini)
  obtain ⟨hx, hb, hml, ho, -⟩ := S
  intro T hT X
  rcases vx_callSX X hx (hh := hh) (bytes := bytes) (maxL := maxL) (ret := ret) ho hl hstt hini hcode hy hK hg (hsize.trans hml.symm) (argsL := As) (rest := rest) (fun sig h => hn.trans (hlen sig h)) hstack hW (by rw [hb]; exact hdg)
    (fun vm₁ hW₁ => ⟨hf.1, hf.2, hp.2 (T.setVm vm₁) hT hW₁⟩) with ⟨v, vm₁, ⟨U', l2, c2, s2⟩, hW₁, X', ⟨g', mk, t, L, e1, e2, hq, h1, hL, h2, h3⟩, st⟩ | ⟨q, vm₁, ⟨U', l2, c2, s2⟩, hW₁, X', ⟨g', mk, t, L, E, ce, e1, e2, hq, hce, hcv, hcl, h1, hL, h2, h3⟩, st⟩
  · dsimp only [Pt.U, Pt.locs, Pt.cells, Pt.slots] at X' e1 e2 h1 h2 h3 st
    subst h1; subst h2; subst h3
    exact Or.inl ⟨v, (T.setVm vm₁).calling g' mk As.toArray, t, U', L, hT, X', hL, e1, e2, hq, st⟩
  · dsimp only [Pt.U, Pt.locs, Pt.cells, Pt.slots] at X' e1 e2 h1 h2 h3 st hcl
    subst h1; subst h2; subst h3
    exact Or.inr ⟨q, (T.setVm vm₁).calling g' mk As.toArray, t, U', L, E, ce, hT, X', hL, e1, e2, hq, hce, hcv, vx_cls hW₁ hcl, st⟩
end
end VXH
theorem vx_ofWH {l : Launch} {y : MethodName} {ws ws' : List Cond} {rm : Room} {Pc : Array Value → State → Prop} {Qc : Array Value → State → Outcome → State → Prop} {XC : String → State → State → Prop} {mc ms : Nat} {free : Addr → Prop} {cc : ByteArray} {maxL : Nat} {ret : Option FieldType} {hh : List (Nat × Nat × Nat × Nat)}
    (hy : plainName y.cls = true) (hw : ws = Cond.codeWith y cc maxL ret hh :: ws')
    (body : ∀ p e s m args below meth c s₁, BodyLoose p l y (headSpec ws rm) cc maxL ret e s m args below meth c s₁ → c.maxLocals = maxL → Pc args s →
      W p l e (headSpec ws rm).room s m args below meth c s.heap [] 0 0 (vx_MQ below Qc XC args s mc ms free) (entryFrame m args maxL)) : vx_Met l y ws rm Pc Qc XC mc ms free := by
  refine MetFree.of_bodyS (code := cc) (maxLocals := maxL) (ret := ret) hy ?_ ?_
  · intro args s m h hn
    obtain ⟨m9, meth, c, hn9, h1, h2, h3, h4, -, h5, h6, -⟩ := Cond.codeWith_spec (atoms_spec (ws := ws) h _ (by rw [hw]; exact List.mem_cons_self))
    cases hn.symm.trans hn9
    exact ⟨meth, c, h1, h2, h3, h4, h5, h6⟩
  · intro p e s m args below meth c s₁ B hml hP _
    have hh0 : s₁.heap = s.heap := by rw [B.state]; rfl
    obtain ⟨t, a1, o, b1, b2, b3⟩ := body p e s m args below meth c s₁ B hml hP s₁ hh0 (Stand.of_body B)
    exact ⟨t, o, a1, b1, b2, b3⟩
/-! ===== END ===== -/

/-! ===== BEGIN printed: names, fields, word lists, decode rows ===== -/
def RX0 : String := "SealwrightVault$Certificates"
def TX0 : u_T := fun k => match k with
  | 0 => ("SealwrightVault$Certificates", "made", "I", false)
  | 1 => ("SealwrightVault$Certificates", "paths", "[I", true)
  | 2 => ("SealwrightVault$Certificates", "ends", "[I", true)
  | 3 => ("SealwrightVault$Certificates", "issuers", "[I", true)
  | 4 => ("SealwrightVault$Certificates", "areRevoked", "[Z", true)
  | _ => ("SealwrightVault$Certificates", "areListed", "[Z", true)
def tyX0 : Nat → FieldType := fun k => match k with
  | 0 => .int
  | 1 => .array .int
  | 2 => .array .int
  | 3 => .array .int
  | 4 => .array .boolean
  | _ => .array .boolean
abbrev wsX00 : List Cond := u_ws RX0 TX0 6
theorem nmX0 : ∀ a, a < 6 → ∀ b, b < 6 → a ≠ b → (TX0 a).2.1 ≠ (TX0 b).2.1 := by decide +kernel
theorem tyX0_ok : ∀ k, k < 6 → parseFieldDescriptor (TX0 k).2.2.1 = some (tyX0 k) := by decide +kernel
abbrev cX0_init : ByteArray := prog_2_method_1_code
def yX0_init : MethodName := ⟨RX0, "<init>", "()V"⟩
abbrev cX0_isFull : ByteArray := prog_2_method_2_code
def yX0_isFull : MethodName := ⟨RX0, "isFull", "()Z"⟩
abbrev cX0_isThere : ByteArray := prog_2_method_3_code
def yX0_isThere : MethodName := ⟨RX0, "isThere", "(I)Z"⟩
abbrev cX0_issuer : ByteArray := prog_2_method_4_code
def yX0_issuer : MethodName := ⟨RX0, "issuer", "(I)I"⟩
abbrev cX0_issuerFor : ByteArray := prog_2_method_5_code
def yX0_issuerFor : MethodName := ⟨RX0, "issuerFor", "(I)I"⟩
abbrev cX0_add : ByteArray := prog_2_method_6_code
def yX0_add : MethodName := ⟨RX0, "add", "(III)I"⟩
abbrev cX0_markRevoked : ByteArray := prog_2_method_7_code
def yX0_markRevoked : MethodName := ⟨RX0, "markRevoked", "(I)Z"⟩
abbrev cX0_publishList : ByteArray := prog_2_method_8_code
def yX0_publishList : MethodName := ⟨RX0, "publishList", "(I)I"⟩
abbrev cX0_isGoodAt : ByteArray := prog_2_method_9_code
def yX0_isGoodAt : MethodName := ⟨RX0, "isGoodAt", "(II)Z"⟩
def RX1 : String := "SealwrightVault$Engines"
def TX1 : u_T := fun k => match k with
  | 0 => ("SealwrightVault$Engines", "mounted", "[I", true)
  | 1 => ("SealwrightVault$Engines", "systems", "[I", true)
  | 2 => ("SealwrightVault$Engines", "quotas", "[I", true)
  | _ => ("SealwrightVault$Engines", "requests", "[I", true)
def tyX1 : Nat → FieldType := fun k => match k with
  | 0 => .array .int
  | 1 => .array .int
  | 2 => .array .int
  | _ => .array .int
abbrev wsX10 : List Cond := u_ws RX1 TX1 4
theorem nmX1 : ∀ a, a < 4 → ∀ b, b < 4 → a ≠ b → (TX1 a).2.1 ≠ (TX1 b).2.1 := by decide +kernel
theorem tyX1_ok : ∀ k, k < 4 → parseFieldDescriptor (TX1 k).2.2.1 = some (tyX1 k) := by decide +kernel
abbrev cX1_init : ByteArray := prog_3_method_1_code
def yX1_init : MethodName := ⟨RX1, "<init>", "()V"⟩
abbrev cX1_engineAt : ByteArray := prog_3_method_2_code
def yX1_engineAt : MethodName := ⟨RX1, "engineAt", "(I)I"⟩
abbrev cX1_systemAt : ByteArray := prog_3_method_3_code
def yX1_systemAt : MethodName := ⟨RX1, "systemAt", "(I)I"⟩
abbrev cX1_put : ByteArray := prog_3_method_4_code
def yX1_put : MethodName := ⟨RX1, "put", "(III)V"⟩
abbrev cX1_allow : ByteArray := prog_3_method_5_code
def yX1_allow : MethodName := ⟨RX1, "allow", "(II)I"⟩
abbrev cX1_countRequest : ByteArray := prog_3_method_6_code
def yX1_countRequest : MethodName := ⟨RX1, "countRequest", "(I)Z"⟩
abbrev cX1_beginCounting : ByteArray := prog_3_method_7_code
def yX1_beginCounting : MethodName := ⟨RX1, "beginCounting", "()V"⟩
def RX2 : String := "SealwrightVault$FarSite"
def TX2 : u_T := fun k => match k with
  | 0 => ("SealwrightVault$FarSite", "shippedValues", "LSealwrightVault$Store;", true)
  | 1 => ("SealwrightVault$FarSite", "paths", "[I", true)
  | 2 => ("SealwrightVault$FarSite", "versions", "[I", true)
  | 3 => ("SealwrightVault$FarSite", "contents", "[I", true)
  | 4 => ("SealwrightVault$FarSite", "keys", "[I", true)
  | 5 => ("SealwrightVault$FarSite", "logged", "I", false)
  | _ => ("SealwrightVault$FarSite", "shipped", "I", false)
def tyX2 : Nat → FieldType := fun k => match k with
  | 0 => .object "SealwrightVault$Store"
  | 1 => .array .int
  | 2 => .array .int
  | 3 => .array .int
  | 4 => .array .int
  | 5 => .int
  | _ => .int
abbrev wsX20 : List Cond := u_ws RX2 TX2 7
theorem nmX2 : ∀ a, a < 7 → ∀ b, b < 7 → a ≠ b → (TX2 a).2.1 ≠ (TX2 b).2.1 := by decide +kernel
theorem tyX2_ok : ∀ k, k < 7 → parseFieldDescriptor (TX2 k).2.2.1 = some (tyX2 k) := by decide +kernel
abbrev cX2_init : ByteArray := prog_4_method_1_code
def yX2_init : MethodName := ⟨RX2, "<init>", "()V"⟩
abbrev cX2_store : ByteArray := prog_4_method_2_code
def yX2_store : MethodName := ⟨RX2, "store", "()LSealwrightVault$Store;"⟩
abbrev cX2_logWrite : ByteArray := prog_4_method_3_code
def yX2_logWrite : MethodName := ⟨RX2, "logWrite", "(III)V"⟩
abbrev cX2_logErase : ByteArray := prog_4_method_4_code
def yX2_logErase : MethodName := ⟨RX2, "logErase", "(III)V"⟩
abbrev cX2_shipUpTo : ByteArray := prog_4_method_5_code
def yX2_shipUpTo : MethodName := ⟨RX2, "shipUpTo", "(I)I"⟩
abbrev cX2_forgetAll : ByteArray := prog_4_method_6_code
def yX2_forgetAll : MethodName := ⟨RX2, "forgetAll", "(II)V"⟩
abbrev cX2_logEntry : ByteArray := prog_4_method_7_code
def yX2_logEntry : MethodName := ⟨RX2, "logEntry", "(IIII)V"⟩
abbrev cX2_moveEntry : ByteArray := prog_4_method_8_code
def yX2_moveEntry : MethodName := ⟨RX2, "moveEntry", "(II)V"⟩
abbrev cX2_repeat : ByteArray := prog_4_method_9_code
def yX2_repeat : MethodName := ⟨RX2, "repeat", "(I)V"⟩
def RX3 : String := "SealwrightVault$KeptReads"
def TX3 : u_T := fun k => match k with
  | 0 => ("SealwrightVault$KeptReads", "wrapCount", "I", false)
  | 1 => ("SealwrightVault$KeptReads", "numbers", "[I", true)
  | 2 => ("SealwrightVault$KeptReads", "wrappedAt", "[I", true)
  | 3 => ("SealwrightVault$KeptReads", "areOpened", "[Z", true)
  | 4 => ("SealwrightVault$KeptReads", "caseCount", "I", false)
  | 5 => ("SealwrightVault$KeptReads", "askers", "[I", true)
  | 6 => ("SealwrightVault$KeptReads", "paths", "[I", true)
  | 7 => ("SealwrightVault$KeptReads", "versions", "[I", true)
  | 8 => ("SealwrightVault$KeptReads", "needed", "[I", true)
  | 9 => ("SealwrightVault$KeptReads", "approvers", "[I", true)
  | _ => ("SealwrightVault$KeptReads", "areClosed", "[Z", true)
def tyX3 : Nat → FieldType := fun k => match k with
  | 0 => .int
  | 1 => .array .int
  | 2 => .array .int
  | 3 => .array .boolean
  | 4 => .int
  | 5 => .array .int
  | 6 => .array .int
  | 7 => .array .int
  | 8 => .array .int
  | 9 => .array .int
  | _ => .array .boolean
abbrev wsX30 : List Cond := u_ws RX3 TX3 11
theorem nmX3 : ∀ a, a < 11 → ∀ b, b < 11 → a ≠ b → (TX3 a).2.1 ≠ (TX3 b).2.1 := by decide +kernel
theorem tyX3_ok : ∀ k, k < 11 → parseFieldDescriptor (TX3 k).2.2.1 = some (tyX3 k) := by decide +kernel
abbrev cX3_init : ByteArray := prog_5_method_1_code
def yX3_init : MethodName := ⟨RX3, "<init>", "()V"⟩
abbrev cX3_isWrap : ByteArray := prog_5_method_2_code
def yX3_isWrap : MethodName := ⟨RX3, "isWrap", "(I)Z"⟩
abbrev cX3_addWrap : ByteArray := prog_5_method_3_code
def yX3_addWrap : MethodName := ⟨RX3, "addWrap", "(II)I"⟩
abbrev cX3_unwrap : ByteArray := prog_5_method_4_code
def yX3_unwrap : MethodName := ⟨RX3, "unwrap", "(II)I"⟩
abbrev cX3_countOfCases : ByteArray := prog_5_method_5_code
def yX3_countOfCases : MethodName := ⟨RX3, "countOfCases", "()I"⟩
abbrev cX3_isCase : ByteArray := prog_5_method_6_code
def yX3_isCase : MethodName := ⟨RX3, "isCase", "(I)Z"⟩
abbrev cX3_askerOf : ByteArray := prog_5_method_7_code
def yX3_askerOf : MethodName := ⟨RX3, "askerOf", "(I)I"⟩
abbrev cX3_pathOf : ByteArray := prog_5_method_8_code
def yX3_pathOf : MethodName := ⟨RX3, "pathOf", "(I)I"⟩
abbrev cX3_versionOf : ByteArray := prog_5_method_9_code
def yX3_versionOf : MethodName := ⟨RX3, "versionOf", "(I)I"⟩
abbrev cX3_isPending : ByteArray := prog_5_method_10_code
def yX3_isPending : MethodName := ⟨RX3, "isPending", "(I)Z"⟩
abbrev cX3_isApproved : ByteArray := prog_5_method_11_code
def yX3_isApproved : MethodName := ⟨RX3, "isApproved", "(I)Z"⟩
abbrev cX3_addCase : ByteArray := prog_5_method_12_code
def yX3_addCase : MethodName := ⟨RX3, "addCase", "(IIII)I"⟩
abbrev cX3_addApproval : ByteArray := prog_5_method_13_code
def yX3_addApproval : MethodName := ⟨RX3, "addApproval", "(II)I"⟩
abbrev cX3_close : ByteArray := prog_5_method_14_code
def yX3_close : MethodName := ⟨RX3, "close", "(I)V"⟩
abbrev cX3_closeThoseAt : ByteArray := prog_5_method_15_code
def yX3_closeThoseAt : MethodName := ⟨RX3, "closeThoseAt", "(II)V"⟩
def RX4 : String := "SealwrightVault$Keyring"
def TX4 : u_T := fun k => match k with
  | 0 => ("SealwrightVault$Keyring", "now", "I", false)
  | 1 => ("SealwrightVault$Keyring", "usesOfNow", "I", false)
  | 2 => ("SealwrightVault$Keyring", "madeAt", "I", false)
  | 3 => ("SealwrightVault$Keyring", "least", "I", false)
  | 4 => ("SealwrightVault$Keyring", "usesBound", "I", false)
  | _ => ("SealwrightVault$Keyring", "ageBound", "I", false)
def tyX4 : Nat → FieldType := fun k => match k with
  | 0 => .int
  | 1 => .int
  | 2 => .int
  | 3 => .int
  | 4 => .int
  | _ => .int
abbrev wsX40 : List Cond := u_ws RX4 TX4 6
theorem nmX4 : ∀ a, a < 6 → ∀ b, b < 6 → a ≠ b → (TX4 a).2.1 ≠ (TX4 b).2.1 := by decide +kernel
theorem tyX4_ok : ∀ k, k < 6 → parseFieldDescriptor (TX4 k).2.2.1 = some (tyX4 k) := by decide +kernel
abbrev cX4_init : ByteArray := prog_6_method_1_code
def yX4_init : MethodName := ⟨RX4, "<init>", "()V"⟩
abbrev cX4_bound : ByteArray := prog_6_method_2_code
def yX4_bound : MethodName := ⟨RX4, "bound", "(II)V"⟩
abbrev cX4_keyOfNow : ByteArray := prog_6_method_3_code
def yX4_keyOfNow : MethodName := ⟨RX4, "keyOfNow", "()I"⟩
abbrev cX4_leastKey : ByteArray := prog_6_method_4_code
def yX4_leastKey : MethodName := ⟨RX4, "leastKey", "()I"⟩
abbrev cX4_setLeast : ByteArray := prog_6_method_5_code
def yX4_setLeast : MethodName := ⟨RX4, "setLeast", "(I)I"⟩
abbrev cX4_makeKey : ByteArray := prog_6_method_6_code
def yX4_makeKey : MethodName := ⟨RX4, "makeKey", "(I)I"⟩
abbrev cX4_keyToKeep : ByteArray := prog_6_method_7_code
def yX4_keyToKeep : MethodName := ⟨RX4, "keyToKeep", "(I)I"⟩
def RX5 : String := "SealwrightVault$Leases"
def TX5 : u_T := fun k => match k with
  | 0 => ("SealwrightVault$Leases", "made", "I", false)
  | 1 => ("SealwrightVault$Leases", "tokenOfLease", "[I", true)
  | 2 => ("SealwrightVault$Leases", "paths", "[I", true)
  | 3 => ("SealwrightVault$Leases", "systems", "[I", true)
  | 4 => ("SealwrightVault$Leases", "ends", "[I", true)
  | 5 => ("SealwrightVault$Leases", "latestEnds", "[I", true)
  | 6 => ("SealwrightVault$Leases", "states", "[I", true)
  | 7 => ("SealwrightVault$Leases", "tries", "[I", true)
  | 8 => ("SealwrightVault$Leases", "ways", "[I", true)
  | 9 => ("SealwrightVault$Leases", "credentialCounts", "[I", true)
  | _ => ("SealwrightVault$Leases", "recordCounts", "[I", true)
def tyX5 : Nat → FieldType := fun k => match k with
  | 0 => .int
  | 1 => .array .int
  | 2 => .array .int
  | 3 => .array .int
  | 4 => .array .int
  | 5 => .array .int
  | 6 => .array .int
  | 7 => .array .int
  | 8 => .array .int
  | 9 => .array .int
  | _ => .array .int
abbrev wsX50 : List Cond := u_ws RX5 TX5 11
theorem nmX5 : ∀ a, a < 11 → ∀ b, b < 11 → a ≠ b → (TX5 a).2.1 ≠ (TX5 b).2.1 := by decide +kernel
theorem tyX5_ok : ∀ k, k < 11 → parseFieldDescriptor (TX5 k).2.2.1 = some (tyX5 k) := by decide +kernel
abbrev cX5_init : ByteArray := prog_7_method_1_code
def yX5_init : MethodName := ⟨RX5, "<init>", "()V"⟩
abbrev cX5_isFull : ByteArray := prog_7_method_2_code
def yX5_isFull : MethodName := ⟨RX5, "isFull", "()Z"⟩
abbrev cX5_isThere : ByteArray := prog_7_method_3_code
def yX5_isThere : MethodName := ⟨RX5, "isThere", "(I)Z"⟩
abbrev cX5_tokenOf : ByteArray := prog_7_method_4_code
def yX5_tokenOf : MethodName := ⟨RX5, "tokenOf", "(I)I"⟩
abbrev cX5_state : ByteArray := prog_7_method_5_code
def yX5_state : MethodName := ⟨RX5, "state", "(I)I"⟩
abbrev cX5_end : ByteArray := prog_7_method_6_code
def yX5_end : MethodName := ⟨RX5, "end", "(I)I"⟩
abbrev cX5_credentialsIn : ByteArray := prog_7_method_7_code
def yX5_credentialsIn : MethodName := ⟨RX5, "credentialsIn", "(I)I"⟩
abbrev cX5_change : ByteArray := prog_7_method_8_code
def yX5_change : MethodName := ⟨RX5, "change", "(II)I"⟩
abbrev cX5_makeCredential : ByteArray := prog_7_method_9_code
def yX5_makeCredential : MethodName := ⟨RX5, "makeCredential", "(I)Z"⟩
abbrev cX5_add : ByteArray := prog_7_method_10_code
def yX5_add : MethodName := ⟨RX5, "add", "(III)I"⟩
abbrev cX5_bound : ByteArray := prog_7_method_11_code
def yX5_bound : MethodName := ⟨RX5, "bound", "(III)V"⟩
abbrev cX5_prolong : ByteArray := prog_7_method_12_code
def yX5_prolong : MethodName := ⟨RX5, "prolong", "(III)I"⟩
abbrev cX5_endThoseAt : ByteArray := prog_7_method_13_code
def yX5_endThoseAt : MethodName := ⟨RX5, "endThoseAt", "(III)I"⟩
abbrev cX5_endThoseOfDead : ByteArray := prog_7_method_14_code
def yX5_endThoseOfDead : MethodName := ⟨RX5, "endThoseOfDead", "(LSealwrightVault$Tokens;I)V"⟩
abbrev cX5_endThoseDue : ByteArray := prog_7_method_15_code
def yX5_endThoseDue : MethodName := ⟨RX5, "endThoseDue", "(I)V"⟩
abbrev cX5_tryAgain : ByteArray := prog_7_method_16_code
def yX5_tryAgain : MethodName := ⟨RX5, "tryAgain", "(I)V"⟩
abbrev cX5_rollBack : ByteArray := prog_7_method_17_code
def yX5_rollBack : MethodName := ⟨RX5, "rollBack", "()V"⟩
abbrev cX5_countAnew : ByteArray := prog_7_method_18_code
def yX5_countAnew : MethodName := ⟨RX5, "countAnew", "(I)I"⟩
abbrev cX5_endNow : ByteArray := prog_7_method_19_code
def yX5_endNow : MethodName := ⟨RX5, "endNow", "(II)V"⟩
abbrev cX5_tryToRemove : ByteArray := prog_7_method_20_code
def yX5_tryToRemove : MethodName := ⟨RX5, "tryToRemove", "(I)V"⟩
def RX6 : String := "SealwrightVault$Rights"
def TX6 : u_T := fun k => match k with
  | 0 => ("SealwrightVault$Rights", "ruleCounts", "[I", true)
  | 1 => ("SealwrightVault$Rights", "parts", "[I", true)
  | 2 => ("SealwrightVault$Rights", "powersOf", "[I", true)
  | 3 => ("SealwrightVault$Rights", "approvalsOf", "[I", true)
  | 4 => ("SealwrightVault$Rights", "personOfLogin", "[I", true)
  | 5 => ("SealwrightVault$Rights", "ofMethods", "[I", true)
  | 6 => ("SealwrightVault$Rights", "ofPeople", "[I", true)
  | 7 => ("SealwrightVault$Rights", "ofGroups", "[I", true)
  | 8 => ("SealwrightVault$Rights", "peopleIn", "[I", true)
  | _ => ("SealwrightVault$Rights", "groupsIn", "[I", true)
def tyX6 : Nat → FieldType := fun k => match k with
  | 0 => .array .int
  | 1 => .array .int
  | 2 => .array .int
  | 3 => .array .int
  | 4 => .array .int
  | 5 => .array .int
  | 6 => .array .int
  | 7 => .array .int
  | 8 => .array .int
  | _ => .array .int
abbrev wsX60 : List Cond := u_ws RX6 TX6 10
theorem nmX6 : ∀ a, a < 10 → ∀ b, b < 10 → a ≠ b → (TX6 a).2.1 ≠ (TX6 b).2.1 := by decide +kernel
theorem tyX6_ok : ∀ k, k < 10 → parseFieldDescriptor (TX6 k).2.2.1 = some (tyX6 k) := by decide +kernel
abbrev cX6_init : ByteArray := prog_8_method_1_code
def yX6_init : MethodName := ⟨RX6, "<init>", "()V"⟩
abbrev cX6_hasRoom : ByteArray := prog_8_method_2_code
def yX6_hasRoom : MethodName := ⟨RX6, "hasRoom", "(I)Z"⟩
abbrev cX6_addRule : ByteArray := prog_8_method_3_code
def yX6_addRule : MethodName := ⟨RX6, "addRule", "(IIIIII)I"⟩
abbrev cX6_at : ByteArray := prog_8_method_5_code
def yX6_at : MethodName := ⟨RX6, "at", "(III)I"⟩
abbrev cX6_isInForce : ByteArray := prog_8_method_6_code
def yX6_isInForce : MethodName := ⟨RX6, "isInForce", "(II)Z"⟩
abbrev cX6_vaguenessAt : ByteArray := prog_8_method_7_code
def yX6_vaguenessAt : MethodName := ⟨RX6, "vaguenessAt", "(III)I"⟩
abbrev cX6_digitOf : ByteArray := prog_8_method_8_code
def yX6_digitOf : MethodName := ⟨RX6, "digitOf", "(III)I"⟩
abbrev cX6_segmentOf : ByteArray := prog_8_method_9_code
def yX6_segmentOf : MethodName := ⟨RX6, "segmentOf", "(II)I"⟩
abbrev cX6_countOf : ByteArray := prog_8_method_10_code
def yX6_countOf : MethodName := ⟨RX6, "countOf", "(I)I"⟩
abbrev cX6_givePolicies : ByteArray := prog_8_method_11_code
def yX6_givePolicies : MethodName := ⟨RX6, "givePolicies", "(III)I"⟩
abbrev cX6_lead : ByteArray := prog_8_method_12_code
def yX6_lead : MethodName := ⟨RX6, "lead", "(III)I"⟩
abbrev cX6_personOf : ByteArray := prog_8_method_13_code
def yX6_personOf : MethodName := ⟨RX6, "personOf", "(II)I"⟩
abbrev cX6_policiesOfMethod : ByteArray := prog_8_method_14_code
def yX6_policiesOfMethod : MethodName := ⟨RX6, "policiesOfMethod", "(I)I"⟩
abbrev cX6_leadElsewhere : ByteArray := prog_8_method_15_code
def yX6_leadElsewhere : MethodName := ⟨RX6, "leadElsewhere", "(II)I"⟩
abbrev cX6_replaceMember : ByteArray := prog_8_method_16_code
def yX6_replaceMember : MethodName := ⟨RX6, "replaceMember", "(II)V"⟩
abbrev cX6_setPersonIn : ByteArray := prog_8_method_17_code
def yX6_setPersonIn : MethodName := ⟨RX6, "setPersonIn", "(IIZ)Z"⟩
abbrev cX6_setGroupIn : ByteArray := prog_8_method_18_code
def yX6_setGroupIn : MethodName := ⟨RX6, "setGroupIn", "(IIZ)Z"⟩
abbrev cX6_policiesOfPerson : ByteArray := prog_8_method_19_code
def yX6_policiesOfPerson : MethodName := ⟨RX6, "policiesOfPerson", "(I)I"⟩
abbrev cX6_groupsOf : ByteArray := prog_8_method_20_code
def yX6_groupsOf : MethodName := ⟨RX6, "groupsOf", "(I)I"⟩
abbrev cX6_exchange : ByteArray := prog_8_method_21_code
def yX6_exchange : MethodName := ⟨RX6, "exchange", "([III)I"⟩
abbrev cX6_setBit : ByteArray := prog_8_method_22_code
def yX6_setBit : MethodName := ⟨RX6, "setBit", "([IIIZ)Z"⟩
def RX7 : String := "SealwrightVault$Seal"
def TX7 : u_T := fun k => match k with
  | 0 => ("SealwrightVault$Seal", "rootKey", "I", false)
  | 1 => ("SealwrightVault$Seal", "shareCount", "I", false)
  | 2 => ("SealwrightVault$Seal", "threshold", "I", false)
  | 3 => ("SealwrightVault$Seal", "shares", "[I", true)
  | 4 => ("SealwrightVault$Seal", "given", "[I", true)
  | 5 => ("SealwrightVault$Seal", "givenCount", "I", false)
  | 6 => ("SealwrightVault$Seal", "isUnlocked", "Z", false)
  | 7 => ("SealwrightVault$Seal", "isBegun", "Z", false)
  | 8 => ("SealwrightVault$Seal", "newSeed", "I", false)
  | 9 => ("SealwrightVault$Seal", "newShareCount", "I", false)
  | _ => ("SealwrightVault$Seal", "newThreshold", "I", false)
def tyX7 : Nat → FieldType := fun k => match k with
  | 0 => .int
  | 1 => .int
  | 2 => .int
  | 3 => .array .int
  | 4 => .array .int
  | 5 => .int
  | 6 => .boolean
  | 7 => .boolean
  | 8 => .int
  | 9 => .int
  | _ => .int
abbrev wsX70 : List Cond := u_ws RX7 TX7 11
theorem nmX7 : ∀ a, a < 11 → ∀ b, b < 11 → a ≠ b → (TX7 a).2.1 ≠ (TX7 b).2.1 := by decide +kernel
theorem tyX7_ok : ∀ k, k < 11 → parseFieldDescriptor (TX7 k).2.2.1 = some (tyX7 k) := by decide +kernel
abbrev cX7_init : ByteArray := prog_9_method_1_code
def yX7_init : MethodName := ⟨RX7, "<init>", "()V"⟩
abbrev cX7_isDealt : ByteArray := prog_9_method_2_code
def yX7_isDealt : MethodName := ⟨RX7, "isDealt", "()Z"⟩
abbrev cX7_isShare : ByteArray := prog_9_method_3_code
def yX7_isShare : MethodName := ⟨RX7, "isShare", "(I)Z"⟩
abbrev cX7_valueOf : ByteArray := prog_9_method_4_code
def yX7_valueOf : MethodName := ⟨RX7, "valueOf", "(I)I"⟩
abbrev cX7_isOpened : ByteArray := prog_9_method_5_code
def yX7_isOpened : MethodName := ⟨RX7, "isOpened", "()Z"⟩
abbrev cX7_dealShares : ByteArray := prog_9_method_7_code
def yX7_dealShares : MethodName := ⟨RX7, "dealShares", "(III)V"⟩
abbrev cX7_takeForOpening : ByteArray := prog_9_method_8_code
def yX7_takeForOpening : MethodName := ⟨RX7, "takeForOpening", "(II)I"⟩
abbrev cX7_close : ByteArray := prog_9_method_11_code
def yX7_close : MethodName := ⟨RX7, "close", "()Z"⟩
abbrev cX7_nextDraw : ByteArray := prog_9_method_12_code
def yX7_nextDraw : MethodName := ⟨RX7, "nextDraw", "(I)I"⟩
abbrev cX7_addTerm : ByteArray := prog_9_method_13_code
def yX7_addTerm : MethodName := ⟨RX7, "addTerm", "(II)V"⟩
abbrev cX7_gather : ByteArray := prog_9_method_14_code
def yX7_gather : MethodName := ⟨RX7, "gather", "(II)I"⟩
abbrev cX7_forgetGiven : ByteArray := prog_9_method_15_code
def yX7_forgetGiven : MethodName := ⟨RX7, "forgetGiven", "()V"⟩
abbrev cX7_keyOfGiven : ByteArray := prog_9_method_16_code
def yX7_keyOfGiven : MethodName := ⟨RX7, "keyOfGiven", "()I"⟩
abbrev cX7_weightOf : ByteArray := prog_9_method_17_code
def yX7_weightOf : MethodName := ⟨RX7, "weightOf", "(I)I"⟩
abbrev cX7_inverse : ByteArray := prog_9_method_18_code
def yX7_inverse : MethodName := ⟨RX7, "inverse", "(I)I"⟩
def RX8 : String := "SealwrightVault$Sinks"
def TX8 : u_T := fun k => match k with
  | 0 => ("SealwrightVault$Sinks", "areOn", "[Z", true)
  | 1 => ("SealwrightVault$Sinks", "areBlocking", "[Z", true)
  | 2 => ("SealwrightVault$Sinks", "salts", "[I", true)
  | _ => ("SealwrightVault$Sinks", "hashes", "[I", true)
def tyX8 : Nat → FieldType := fun k => match k with
  | 0 => .array .boolean
  | 1 => .array .boolean
  | 2 => .array .int
  | _ => .array .int
abbrev wsX80 : List Cond := u_ws RX8 TX8 4
theorem nmX8 : ∀ a, a < 4 → ∀ b, b < 4 → a ≠ b → (TX8 a).2.1 ≠ (TX8 b).2.1 := by decide +kernel
theorem tyX8_ok : ∀ k, k < 4 → parseFieldDescriptor (TX8 k).2.2.1 = some (tyX8 k) := by decide +kernel
abbrev cX8_init : ByteArray := prog_10_method_1_code
def yX8_init : MethodName := ⟨RX8, "<init>", "()V"⟩
abbrev cX8_hashOf : ByteArray := prog_10_method_2_code
def yX8_hashOf : MethodName := ⟨RX8, "hashOf", "(I)I"⟩
abbrev cX8_change : ByteArray := prog_10_method_3_code
def yX8_change : MethodName := ⟨RX8, "change", "(IZZI)Z"⟩
abbrev cX8_areAllBlocking : ByteArray := prog_10_method_4_code
def yX8_areAllBlocking : MethodName := ⟨RX8, "areAllBlocking", "()Z"⟩
abbrev cX8_tell : ByteArray := prog_10_method_5_code
def yX8_tell : MethodName := ⟨RX8, "tell", "(IIII)V"⟩
abbrev cX8_numberOf : ByteArray := prog_10_method_6_code
def yX8_numberOf : MethodName := ⟨RX8, "numberOf", "(I)I"⟩
def RX9 : String := "SealwrightVault$Store"
def TX9 : u_T := fun k => match k with
  | 0 => ("SealwrightVault$Store", "lasts", "[I", true)
  | 1 => ("SealwrightVault$Store", "numbers", "[I", true)
  | 2 => ("SealwrightVault$Store", "keys", "[I", true)
  | _ => ("SealwrightVault$Store", "states", "[I", true)
def tyX9 : Nat → FieldType := fun k => match k with
  | 0 => .array .int
  | 1 => .array .int
  | 2 => .array .int
  | _ => .array .int
abbrev wsX90 : List Cond := u_ws RX9 TX9 4
theorem nmX9 : ∀ a, a < 4 → ∀ b, b < 4 → a ≠ b → (TX9 a).2.1 ≠ (TX9 b).2.1 := by decide +kernel
theorem tyX9_ok : ∀ k, k < 4 → parseFieldDescriptor (TX9 k).2.2.1 = some (tyX9 k) := by decide +kernel
abbrev cX9_init : ByteArray := prog_11_method_1_code
def yX9_init : MethodName := ⟨RX9, "<init>", "()V"⟩
abbrev cX9_lastOf : ByteArray := prog_11_method_2_code
def yX9_lastOf : MethodName := ⟨RX9, "lastOf", "(I)I"⟩
abbrev cX9_stateAt : ByteArray := prog_11_method_3_code
def yX9_stateAt : MethodName := ⟨RX9, "stateAt", "(I)I"⟩
abbrev cX9_keyAt : ByteArray := prog_11_method_4_code
def yX9_keyAt : MethodName := ⟨RX9, "keyAt", "(I)I"⟩
abbrev cX9_slotOf : ByteArray := prog_11_method_5_code
def yX9_slotOf : MethodName := ⟨RX9, "slotOf", "(II)I"⟩
abbrev cX9_put : ByteArray := prog_11_method_6_code
def yX9_put : MethodName := ⟨RX9, "put", "(III)I"⟩
abbrev cX9_setState : ByteArray := prog_11_method_7_code
def yX9_setState : MethodName := ⟨RX9, "setState", "(II)I"⟩
abbrev cX9_numberOrWhyNot : ByteArray := prog_11_method_8_code
def yX9_numberOrWhyNot : MethodName := ⟨RX9, "numberOrWhyNot", "(III)I"⟩
abbrev cX9_forget : ByteArray := prog_11_method_9_code
def yX9_forget : MethodName := ⟨RX9, "forget", "(II)V"⟩
abbrev cX9_rewrapUpTo : ByteArray := prog_11_method_10_code
def yX9_rewrapUpTo : MethodName := ⟨RX9, "rewrapUpTo", "(ILSealwrightVault$Keyring;I)I"⟩
def RX10 : String := "SealwrightVault$Tokens"
def TX10 : u_T := fun k => match k with
  | 0 => ("SealwrightVault$Tokens", "made", "I", false)
  | 1 => ("SealwrightVault$Tokens", "parents", "[I", true)
  | 2 => ("SealwrightVault$Tokens", "kinds", "[I", true)
  | 3 => ("SealwrightVault$Tokens", "persons", "[I", true)
  | 4 => ("SealwrightVault$Tokens", "policySets", "[I", true)
  | 5 => ("SealwrightVault$Tokens", "ends", "[I", true)
  | 6 => ("SealwrightVault$Tokens", "latestEnds", "[I", true)
  | 7 => ("SealwrightVault$Tokens", "periods", "[I", true)
  | 8 => ("SealwrightVault$Tokens", "usesOf", "[I", true)
  | 9 => ("SealwrightVault$Tokens", "placeSets", "[I", true)
  | 10 => ("SealwrightVault$Tokens", "areOrphans", "[Z", true)
  | _ => ("SealwrightVault$Tokens", "areDead", "[Z", true)
def tyX10 : Nat → FieldType := fun k => match k with
  | 0 => .int
  | 1 => .array .int
  | 2 => .array .int
  | 3 => .array .int
  | 4 => .array .int
  | 5 => .array .int
  | 6 => .array .int
  | 7 => .array .int
  | 8 => .array .int
  | 9 => .array .int
  | 10 => .array .boolean
  | _ => .array .boolean
abbrev wsX100 : List Cond := u_ws RX10 TX10 12
theorem nmX10 : ∀ a, a < 12 → ∀ b, b < 12 → a ≠ b → (TX10 a).2.1 ≠ (TX10 b).2.1 := by decide +kernel
theorem tyX10_ok : ∀ k, k < 12 → parseFieldDescriptor (TX10 k).2.2.1 = some (tyX10 k) := by decide +kernel
abbrev cX10_init : ByteArray := prog_12_method_1_code
def yX10_init : MethodName := ⟨RX10, "<init>", "()V"⟩
abbrev cX10_count : ByteArray := prog_12_method_2_code
def yX10_count : MethodName := ⟨RX10, "count", "()I"⟩
abbrev cX10_isFull : ByteArray := prog_12_method_3_code
def yX10_isFull : MethodName := ⟨RX10, "isFull", "()Z"⟩
abbrev cX10_isThere : ByteArray := prog_12_method_4_code
def yX10_isThere : MethodName := ⟨RX10, "isThere", "(I)Z"⟩
abbrev cX10_isAlive : ByteArray := prog_12_method_5_code
def yX10_isAlive : MethodName := ⟨RX10, "isAlive", "(I)Z"⟩
abbrev cX10_isBatch : ByteArray := prog_12_method_6_code
def yX10_isBatch : MethodName := ⟨RX10, "isBatch", "(I)Z"⟩
abbrev cX10_personOf : ByteArray := prog_12_method_7_code
def yX10_personOf : MethodName := ⟨RX10, "personOf", "(I)I"⟩
abbrev cX10_policiesOf : ByteArray := prog_12_method_8_code
def yX10_policiesOf : MethodName := ⟨RX10, "policiesOf", "(I)I"⟩
abbrev cX10_endAt : ByteArray := prog_12_method_9_code
def yX10_endAt : MethodName := ⟨RX10, "endAt", "(I)I"⟩
abbrev cX10_usesLeft : ByteArray := prog_12_method_10_code
def yX10_usesLeft : MethodName := ⟨RX10, "usesLeft", "(I)I"⟩
abbrev cX10_add : ByteArray := prog_12_method_11_code
def yX10_add : MethodName := ⟨RX10, "add", "(IIII)I"⟩
abbrev cX10_bound : ByteArray := prog_12_method_12_code
def yX10_bound : MethodName := ⟨RX10, "bound", "(IIII)V"⟩
abbrev cX10_limit : ByteArray := prog_12_method_13_code
def yX10_limit : MethodName := ⟨RX10, "limit", "(IIIZ)V"⟩
abbrev cX10_prolong : ByteArray := prog_12_method_14_code
def yX10_prolong : MethodName := ⟨RX10, "prolong", "(III)I"⟩
abbrev cX10_handOver : ByteArray := prog_12_method_15_code
def yX10_handOver : MethodName := ⟨RX10, "handOver", "(II)V"⟩
abbrev cX10_isUsableFrom : ByteArray := prog_12_method_16_code
def yX10_isUsableFrom : MethodName := ⟨RX10, "isUsableFrom", "(II)Z"⟩
abbrev cX10_countUse : ByteArray := prog_12_method_17_code
def yX10_countUse : MethodName := ⟨RX10, "countUse", "(I)V"⟩
abbrev cX10_kill : ByteArray := prog_12_method_18_code
def yX10_kill : MethodName := ⟨RX10, "kill", "(I)I"⟩
abbrev cX10_isLeftByDead : ByteArray := prog_12_method_19_code
def yX10_isLeftByDead : MethodName := ⟨RX10, "isLeftByDead", "(I)Z"⟩
def RX11 : String := "SealwrightVault"
def TX11 : u_T := fun k => match k with
  | 0 => ("SealwrightVault", "seal", "LSealwrightVault$Seal;", true)
  | 1 => ("SealwrightVault", "keyring", "LSealwrightVault$Keyring;", true)
  | 2 => ("SealwrightVault", "engines", "LSealwrightVault$Engines;", true)
  | 3 => ("SealwrightVault", "rights", "LSealwrightVault$Rights;", true)
  | 4 => ("SealwrightVault", "tokens", "LSealwrightVault$Tokens;", true)
  | 5 => ("SealwrightVault", "leases", "LSealwrightVault$Leases;", true)
  | 6 => ("SealwrightVault", "store", "LSealwrightVault$Store;", true)
  | 7 => ("SealwrightVault", "farSite", "LSealwrightVault$FarSite;", true)
  | 8 => ("SealwrightVault", "keptReads", "LSealwrightVault$KeptReads;", true)
  | 9 => ("SealwrightVault", "certificates", "LSealwrightVault$Certificates;", true)
  | 10 => ("SealwrightVault", "sinks", "LSealwrightVault$Sinks;", true)
  | _ => ("SealwrightVault", "hour", "I", false)
def tyX11 : Nat → FieldType := fun k => match k with
  | 0 => .object "SealwrightVault$Seal"
  | 1 => .object "SealwrightVault$Keyring"
  | 2 => .object "SealwrightVault$Engines"
  | 3 => .object "SealwrightVault$Rights"
  | 4 => .object "SealwrightVault$Tokens"
  | 5 => .object "SealwrightVault$Leases"
  | 6 => .object "SealwrightVault$Store"
  | 7 => .object "SealwrightVault$FarSite"
  | 8 => .object "SealwrightVault$KeptReads"
  | 9 => .object "SealwrightVault$Certificates"
  | 10 => .object "SealwrightVault$Sinks"
  | _ => .int
abbrev wsX110 : List Cond := u_ws RX11 TX11 12
theorem nmX11 : ∀ a, a < 12 → ∀ b, b < 12 → a ≠ b → (TX11 a).2.1 ≠ (TX11 b).2.1 := by decide +kernel
theorem tyX11_ok : ∀ k, k < 12 → parseFieldDescriptor (TX11 k).2.2.1 = some (tyX11 k) := by decide +kernel
abbrev cX11_init : ByteArray := prog_1_method_1_code
def yX11_init : MethodName := ⟨RX11, "<init>", "()V"⟩
abbrev cX11_deal : ByteArray := prog_1_method_2_code
def yX11_deal : MethodName := ⟨RX11, "deal", "(III)V"⟩
abbrev cX11_share : ByteArray := prog_1_method_3_code
def yX11_share : MethodName := ⟨RX11, "share", "(I)I"⟩
abbrev cX11_give : ByteArray := prog_1_method_4_code
def yX11_give : MethodName := ⟨RX11, "give", "(II)I"⟩
abbrev cX11_seal : ByteArray := prog_1_method_5_code
def yX11_seal : MethodName := ⟨RX11, "seal", "()Z"⟩
abbrev cX11_isOpen : ByteArray := prog_1_method_6_code
def yX11_isOpen : MethodName := ⟨RX11, "isOpen", "()Z"⟩
abbrev cX11_setBounds : ByteArray := prog_1_method_9_code
def yX11_setBounds : MethodName := ⟨RX11, "setBounds", "(II)V"⟩
abbrev cX11_turn : ByteArray := prog_1_method_10_code
def yX11_turn : MethodName := ⟨RX11, "turn", "()I"⟩
abbrev cX11_retire : ByteArray := prog_1_method_11_code
def yX11_retire : MethodName := ⟨RX11, "retire", "(I)I"⟩
abbrev cX11_rewrap : ByteArray := prog_1_method_12_code
def yX11_rewrap : MethodName := ⟨RX11, "rewrap", "(I)I"⟩
abbrev cX11_key : ByteArray := prog_1_method_13_code
def yX11_key : MethodName := ⟨RX11, "key", "()I"⟩
abbrev cX11_mount : ByteArray := prog_1_method_14_code
def yX11_mount : MethodName := ⟨RX11, "mount", "(III)V"⟩
abbrev cX11_setQuota : ByteArray := prog_1_method_15_code
def yX11_setQuota : MethodName := ⟨RX11, "setQuota", "(II)I"⟩
abbrev cX11_rule : ByteArray := prog_1_method_16_code
def yX11_rule : MethodName := ⟨RX11, "rule", "(IIIIII)I"⟩
abbrev cX11_setPolicies : ByteArray := prog_1_method_18_code
def yX11_setPolicies : MethodName := ⟨RX11, "setPolicies", "(III)I"⟩
abbrev cX11_alias : ByteArray := prog_1_method_19_code
def yX11_alias : MethodName := ⟨RX11, "alias", "(III)I"⟩
abbrev cX11_merge : ByteArray := prog_1_method_20_code
def yX11_merge : MethodName := ⟨RX11, "merge", "(II)I"⟩
abbrev cX11_member : ByteArray := prog_1_method_21_code
def yX11_member : MethodName := ⟨RX11, "member", "(IZIZ)Z"⟩
abbrev cX11_login : ByteArray := prog_1_method_22_code
def yX11_login : MethodName := ⟨RX11, "login", "(II)I"⟩
abbrev cX11_token : ByteArray := prog_1_method_23_code
def yX11_token : MethodName := ⟨RX11, "token", "(IIIIIIIZ)I"⟩
abbrev cX11_renewToken : ByteArray := prog_1_method_24_code
def yX11_renewToken : MethodName := ⟨RX11, "renewToken", "(II)I"⟩
abbrev cX11_revokeToken : ByteArray := prog_1_method_25_code
def yX11_revokeToken : MethodName := ⟨RX11, "revokeToken", "(I)I"⟩
abbrev cX11_uses : ByteArray := prog_1_method_26_code
def yX11_uses : MethodName := ⟨RX11, "uses", "(I)I"⟩
abbrev cX11_lives : ByteArray := prog_1_method_27_code
def yX11_lives : MethodName := ⟨RX11, "lives", "(I)Z"⟩
abbrev cX11_read : ByteArray := prog_1_method_29_code
def yX11_read : MethodName := ⟨RX11, "read", "(IIII)I"⟩
abbrev cX11_write : ByteArray := prog_1_method_30_code
def yX11_write : MethodName := ⟨RX11, "write", "(IIIII)I"⟩
abbrev cX11_erase : ByteArray := prog_1_method_31_code
def yX11_erase : MethodName := ⟨RX11, "erase", "(IIIII)I"⟩
abbrev cX11_keyOf : ByteArray := prog_1_method_32_code
def yX11_keyOf : MethodName := ⟨RX11, "keyOf", "(II)I"⟩
abbrev cX11_setSystem : ByteArray := prog_1_method_33_code
def yX11_setSystem : MethodName := ⟨RX11, "setSystem", "(II)I"⟩
abbrev cX11_issue : ByteArray := prog_1_method_34_code
def yX11_issue : MethodName := ⟨RX11, "issue", "(IIIII)I"⟩
abbrev cX11_renew : ByteArray := prog_1_method_35_code
def yX11_renew : MethodName := ⟨RX11, "renew", "(II)I"⟩
abbrev cX11_revoke : ByteArray := prog_1_method_36_code
def yX11_revoke : MethodName := ⟨RX11, "revoke", "(II)I"⟩
abbrev cX11_stateOf : ByteArray := prog_1_method_37_code
def yX11_stateOf : MethodName := ⟨RX11, "stateOf", "(I)I"⟩
abbrev cX11_endOf : ByteArray := prog_1_method_38_code
def yX11_endOf : MethodName := ⟨RX11, "endOf", "(I)I"⟩
abbrev cX11_credentials : ByteArray := prog_1_method_39_code
def yX11_credentials : MethodName := ⟨RX11, "credentials", "(I)I"⟩
abbrev cX11_credentialsAnew : ByteArray := prog_1_method_40_code
def yX11_credentialsAnew : MethodName := ⟨RX11, "credentialsAnew", "(I)I"⟩
abbrev cX11_wrap : ByteArray := prog_1_method_41_code
def yX11_wrap : MethodName := ⟨RX11, "wrap", "(IIII)I"⟩
abbrev cX11_open : ByteArray := prog_1_method_42_code
def yX11_open : MethodName := ⟨RX11, "open", "(I)I"⟩
abbrev cX11_approve : ByteArray := prog_1_method_43_code
def yX11_approve : MethodName := ⟨RX11, "approve", "(III)I"⟩
abbrev cX11_takeUp : ByteArray := prog_1_method_44_code
def yX11_takeUp : MethodName := ⟨RX11, "takeUp", "(III)I"⟩
abbrev cX11_cases : ByteArray := prog_1_method_45_code
def yX11_cases : MethodName := ⟨RX11, "cases", "()I"⟩
abbrev cX11_certify : ByteArray := prog_1_method_46_code
def yX11_certify : MethodName := ⟨RX11, "certify", "(IIII)I"⟩
abbrev cX11_revokeCertificate : ByteArray := prog_1_method_47_code
def yX11_revokeCertificate : MethodName := ⟨RX11, "revokeCertificate", "(I)Z"⟩
abbrev cX11_publish : ByteArray := prog_1_method_48_code
def yX11_publish : MethodName := ⟨RX11, "publish", "()I"⟩
abbrev cX11_isGood : ByteArray := prog_1_method_49_code
def yX11_isGood : MethodName := ⟨RX11, "isGood", "(I)Z"⟩
abbrev cX11_issuerOf : ByteArray := prog_1_method_50_code
def yX11_issuerOf : MethodName := ⟨RX11, "issuerOf", "(I)I"⟩
abbrev cX11_setSink : ByteArray := prog_1_method_51_code
def yX11_setSink : MethodName := ⟨RX11, "setSink", "(IZZI)Z"⟩
abbrev cX11_hash : ByteArray := prog_1_method_52_code
def yX11_hash : MethodName := ⟨RX11, "hash", "(I)I"⟩
abbrev cX11_ship : ByteArray := prog_1_method_53_code
def yX11_ship : MethodName := ⟨RX11, "ship", "(I)I"⟩
abbrev cX11_farRead : ByteArray := prog_1_method_54_code
def yX11_farRead : MethodName := ⟨RX11, "farRead", "(III)I"⟩
abbrev cX11_pass : ByteArray := prog_1_method_55_code
def yX11_pass : MethodName := ⟨RX11, "pass", "(I)I"⟩
abbrev cX11_demandIndex : ByteArray := prog_1_method_56_code
def yX11_demandIndex : MethodName := ⟨RX11, "demandIndex", "(Z)V"⟩
abbrev cX11_demandArgument : ByteArray := prog_1_method_57_code
def yX11_demandArgument : MethodName := ⟨RX11, "demandArgument", "(Z)V"⟩
abbrev cX11_demandState : ByteArray := prog_1_method_58_code
def yX11_demandState : MethodName := ⟨RX11, "demandState", "(Z)V"⟩
abbrev cX11_isWithin : ByteArray := prog_1_method_59_code
def yX11_isWithin : MethodName := ⟨RX11, "isWithin", "(III)Z"⟩
abbrev cX11_isIndex : ByteArray := prog_1_method_60_code
def yX11_isIndex : MethodName := ⟨RX11, "isIndex", "(II)Z"⟩
abbrev cX11_isSegment : ByteArray := prog_1_method_61_code
def yX11_isSegment : MethodName := ⟨RX11, "isSegment", "(I)Z"⟩
abbrev cX11_isPath : ByteArray := prog_1_method_62_code
def yX11_isPath : MethodName := ⟨RX11, "isPath", "(I)Z"⟩
abbrev cX11_isPlace : ByteArray := prog_1_method_63_code
def yX11_isPlace : MethodName := ⟨RX11, "isPlace", "(I)Z"⟩
abbrev cX11_isVersion : ByteArray := prog_1_method_64_code
def yX11_isVersion : MethodName := ⟨RX11, "isVersion", "(I)Z"⟩
abbrev cX11_isDealing : ByteArray := prog_1_method_65_code
def yX11_isDealing : MethodName := ⟨RX11, "isDealing", "(III)Z"⟩
abbrev cX11_firstOf : ByteArray := prog_1_method_66_code
def yX11_firstOf : MethodName := ⟨RX11, "firstOf", "(I)I"⟩
abbrev cX11_admit : ByteArray := prog_1_method_67_code
def yX11_admit : MethodName := ⟨RX11, lw_nm18, "(IIII)I"⟩
abbrev cX11_conclude : ByteArray := prog_1_method_68_code
def yX11_conclude : MethodName := ⟨RX11, "conclude", "(IIII)I"⟩
abbrev cX11_rightsAt : ByteArray := prog_1_method_69_code
def yX11_rightsAt : MethodName := ⟨RX11, "rightsAt", "(II)I"⟩
abbrev cX11_refusalOfChild : ByteArray := prog_1_method_70_code
def yX11_refusalOfChild : MethodName := ⟨RX11, "refusalOfChild", "(II)I"⟩
abbrev cX11_letDie : ByteArray := prog_1_method_71_code
def yX11_letDie : MethodName := ⟨RX11, "letDie", "(I)I"⟩
abbrev cX11_numberAt : ByteArray := prog_1_method_72_code
def yX11_numberAt : MethodName := ⟨RX11, "numberAt", "(II)I"⟩
abbrev cX11_readOrAsk : ByteArray := prog_1_method_73_code
def yX11_readOrAsk : MethodName := ⟨RX11, "readOrAsk", "(III)I"⟩
abbrev cX11_writeAt : ByteArray := prog_1_method_74_code
def yX11_writeAt : MethodName := ⟨RX11, "writeAt", "(III)I"⟩
abbrev cX11_eraseAt : ByteArray := prog_1_method_75_code
def yX11_eraseAt : MethodName := ⟨RX11, "eraseAt", "(III)I"⟩
abbrev cX11_issueAt : ByteArray := prog_1_method_76_code
def yX11_issueAt : MethodName := ⟨RX11, "issueAt", "(IIII)I"⟩
abbrev cX11_approveCase : ByteArray := prog_1_method_77_code
def yX11_approveCase : MethodName := ⟨RX11, "approveCase", "(II)I"⟩
abbrev cX11_takeUpCase : ByteArray := prog_1_method_78_code
def yX11_takeUpCase : MethodName := ⟨RX11, "takeUpCase", "(II)I"⟩
abbrev cX11_certifyAt : ByteArray := prog_1_method_79_code
def yX11_certifyAt : MethodName := ⟨RX11, "certifyAt", "(II)I"⟩
abbrev cX11_clearBehindUnmounting : ByteArray := prog_1_method_80_code
def yX11_clearBehindUnmounting : MethodName := ⟨RX11, "clearBehindUnmounting", "(I)V"⟩
abbrev cX11_beginHour : ByteArray := prog_1_method_81_code
def yX11_beginHour : MethodName := ⟨RX11, "beginHour", "()V"⟩
def RX12 : String := "SealwrightVaultModel"
def TX12 : u_T := fun k => match k with
  | _ => ("", "", "", false)
def tyX12 : Nat → FieldType := fun k => match k with
  | _ => .int
abbrev wsX120 : List Cond := u_ws RX12 TX12 0
theorem nmX12 : ∀ a, a < 0 → ∀ b, b < 0 → a ≠ b → (TX12 a).2.1 ≠ (TX12 b).2.1 := by decide +kernel
theorem tyX12_ok : ∀ k, k < 0 → parseFieldDescriptor (TX12 k).2.2.1 = some (tyX12 k) := by decide +kernel
def RJ6 : String := "java/lang/Integer"
def TJ6 : u_T := fun k => match k with
  | _ => ("", "", "", false)
def tyJ6 : Nat → FieldType := fun k => match k with
  | _ => .int
abbrev wsJ60 : List Cond := u_ws RJ6 TJ6 0
theorem nmJ6 : ∀ a, a < 0 → ∀ b, b < 0 → a ≠ b → (TJ6 a).2.1 ≠ (TJ6 b).2.1 := by decide +kernel
theorem tyJ6_ok : ∀ k, k < 0 → parseFieldDescriptor (TJ6 k).2.2.1 = some (tyJ6 k) := by decide +kernel
abbrev cJ6_bitCount_0f7a4 : ByteArray := prog_19_method_49_code
def yJ6_bitCount_0f7a4 : MethodName := ⟨RJ6, "bitCount", "(I)I"⟩
def RJ9 : String := "java/lang/Math"
def TJ9 : u_T := fun k => match k with
  | _ => ("", "", "", false)
def tyJ9 : Nat → FieldType := fun k => match k with
  | _ => .int
abbrev wsJ90 : List Cond := u_ws RJ9 TJ9 0
theorem nmJ9 : ∀ a, a < 0 → ∀ b, b < 0 → a ≠ b → (TJ9 a).2.1 ≠ (TJ9 b).2.1 := by decide +kernel
theorem tyJ9_ok : ∀ k, k < 0 → parseFieldDescriptor (TJ9 k).2.2.1 = some (tyJ9 k) := by decide +kernel
abbrev cJ9_floorMod_7cf53 : ByteArray := prog_20_method_50_code
def yJ9_floorMod_7cf53 : MethodName := ⟨RJ9, "floorMod", "(II)I"⟩
abbrev cJ9_max_7cf53 : ByteArray := prog_20_method_65_code
def yJ9_max_7cf53 : MethodName := ⟨RJ9, "max", "(II)I"⟩
abbrev cJ9_min_7cf53 : ByteArray := prog_20_method_69_code
def yJ9_min_7cf53 : MethodName := ⟨RJ9, "min", "(II)I"⟩
def RL : String := "SealwrightVaultLaw"
abbrev cL_draw : ByteArray := method_2_code
def yL_draw : MethodName := ⟨RL, "draw", "([II)I"⟩
abbrev cL_begins : ByteArray := method_3_code
def yL_begins : MethodName := ⟨RL, "begins", "(LSealwrightVault;[I[II)Z"⟩
abbrev cL_opens : ByteArray := method_4_code
def yL_opens : MethodName := ⟨RL, "opens", "(LSealwrightVault;[I)Z"⟩
abbrev cL_step : ByteArray := method_5_code
def yL_step : MethodName := ⟨RL, "step", "(LSealwrightVault;[I[IIII)Z"⟩
abbrev cL_logs : ByteArray := method_6_code
def yL_logs : MethodName := ⟨RL, "logs", "(LSealwrightVault;[III)Z"⟩
abbrev cL_makes : ByteArray := method_7_code
def yL_makes : MethodName := ⟨RL, "makes", "(LSealwrightVault;[IIII)Z"⟩
abbrev cL_dies : ByteArray := method_8_code
def yL_dies : MethodName := ⟨RL, "dies", "(LSealwrightVault;[III)Z"⟩
abbrev cL_values : ByteArray := method_9_code
def yL_values : MethodName := ⟨RL, "values", "(LSealwrightVault;[I[IIIII)Z"⟩
abbrev cL_credentials : ByteArray := method_10_code
def yL_credentials : MethodName := ⟨RL, "credentials", "(LSealwrightVault;[I[IIIII)Z"⟩
abbrev cL_wraps : ByteArray := method_11_code
def yL_wraps : MethodName := ⟨RL, "wraps", "(LSealwrightVault;[IIII)Z"⟩
abbrev cL_cases : ByteArray := method_12_code
def yL_cases : MethodName := ⟨RL, "cases", "(LSealwrightVault;[IIIII)Z"⟩
abbrev cL_certificates : ByteArray := method_13_code
def yL_certificates : MethodName := ⟨RL, "certificates", "(LSealwrightVault;[IIIII)Z"⟩
abbrev cL_people : ByteArray := method_14_code
def yL_people : MethodName := ⟨RL, "people", "(LSealwrightVault;II)Z"⟩
abbrev cL_isWhole : ByteArray := method_15_code
def yL_isWhole : MethodName := ⟨RL, "isWhole", "(LSealwrightVault;[I)Z"⟩
abbrev cL_law : ByteArray := code
def yL_law : MethodName := ⟨RL, "law", "([I)Z"⟩
abbrev vwCl : List vw_C := [(RX0, TX0, 6), (RX1, TX1, 4), (RX2, TX2, 7), (RX3, TX3, 11), (RX4, TX4, 6), (RX5, TX5, 11), (RX6, TX6, 10), (RX7, TX7, 11), (RX8, TX8, 4), (RX9, TX9, 4), (RX10, TX10, 12), (RX11, TX11, 12)]
end
section
/-! the program as tables, written by a program out of the printed names -/
abbrev zI : Type := Nat × Nat × Int × Nat × Nat
abbrev zK : Type := (Nat × Nat) ⊕ (Nat × List (Option Nat))
/-- the layout: each cell of the world, an array (its type, its length) or an object (its class, its fields: a number, or the cell that it holds) -/
def z_lay : List zK := [.inr (11, [some 1, some 2, some 3, some 4, some 5, some 6, some 7, some 8, some 10, some 11, some 12, none]),
  .inr (7, [none, none, none, some 14, some 15, none, none, none, none, none, none]),
  .inr (4, [none, none, none, none, none, none]),
  .inr (1, [some 16, some 17, some 18, some 19]),
  .inr (6, [some 20, some 21, some 22, some 23, some 24, some 25, some 26, some 27, some 28, some 29]),
  .inr (10, [none, some 30, some 31, some 32, some 33, some 34, some 35, some 36, some 37, some 38, some 39, some 40]),
  .inr (5, [none, some 41, some 42, some 43, some 44, some 45, some 46, some 47, some 48, some 49, some 50]),
  .inr (9, [some 51, some 52, some 53, some 54]),
  .inr (2, [some 9, some 55, some 56, some 57, some 58, none, none]),
  .inr (9, [some 59, some 60, some 61, some 62]),
  .inr (3, [none, some 63, some 64, some 65, none, some 66, some 67, some 68, some 69, some 70, some 71]),
  .inr (0, [none, some 72, some 73, some 74, some 75, some 76]),
  .inr (8, [some 77, some 78, some 79, some 80]),
  .inl (0, 9),
  .inl (0, 7),
  .inl (0, 7),
  .inl (0, 6),
  .inl (0, 6),
  .inl (0, 6),
  .inl (0, 6),
  .inl (0, 8),
  .inl (0, 120),
  .inl (0, 40),
  .inl (0, 40),
  .inl (0, 18),
  .inl (0, 3),
  .inl (0, 8),
  .inl (0, 4),
  .inl (0, 4),
  .inl (0, 4),
  .inl (0, 40),
  .inl (0, 40),
  .inl (0, 40),
  .inl (0, 40),
  .inl (0, 40),
  .inl (0, 40),
  .inl (0, 40),
  .inl (0, 40),
  .inl (0, 40),
  .inl (1, 40),
  .inl (1, 40),
  .inl (0, 40),
  .inl (0, 40),
  .inl (0, 40),
  .inl (0, 40),
  .inl (0, 40),
  .inl (0, 40),
  .inl (0, 40),
  .inl (0, 3),
  .inl (0, 3),
  .inl (0, 3),
  .inl (0, 216),
  .inl (0, 864),
  .inl (0, 864),
  .inl (0, 864),
  .inl (0, 512),
  .inl (0, 512),
  .inl (0, 512),
  .inl (0, 512),
  .inl (0, 216),
  .inl (0, 864),
  .inl (0, 864),
  .inl (0, 864),
  .inl (0, 20),
  .inl (0, 20),
  .inl (1, 20),
  .inl (0, 20),
  .inl (0, 20),
  .inl (0, 20),
  .inl (0, 20),
  .inl (0, 20),
  .inl (1, 20),
  .inl (0, 30),
  .inl (0, 30),
  .inl (0, 30),
  .inl (1, 30),
  .inl (1, 30),
  .inl (1, 3),
  .inl (1, 3),
  .inl (0, 3),
  .inl (0, 3),
  .inl (0, 12)]
def z_ys : List MethodName := [yX0_isFull, yX0_isThere, yX0_issuer, yX0_issuerFor, yX0_add, yX0_markRevoked, yX0_publishList, yX0_isGoodAt, yX1_engineAt, yX1_systemAt, yX1_put, yX1_allow, yX1_countRequest, yX1_beginCounting, yX2_store, yX2_logWrite, yX2_logErase, yX2_shipUpTo, yX2_forgetAll, yX2_logEntry, yX2_moveEntry, yX2_repeat, yX3_isWrap, yX3_addWrap, yX3_unwrap, yX3_countOfCases, yX3_isCase, yX3_askerOf, yX3_pathOf, yX3_versionOf, yX3_isPending, yX3_isApproved, yX3_addCase, yX3_addApproval, yX3_close, yX3_closeThoseAt, yX4_bound, yX4_keyOfNow, yX4_leastKey, yX4_setLeast, yX4_makeKey, yX4_keyToKeep, yX5_isFull, yX5_isThere, yX5_tokenOf, yX5_state, yX5_end, yX5_credentialsIn, yX5_change, yX5_makeCredential, yX5_add, yX5_bound, yX5_prolong, yX5_endThoseAt, yX5_endThoseOfDead, yX5_endThoseDue, yX5_tryAgain, yX5_rollBack, yX5_countAnew, yX5_endNow, yX5_tryToRemove, yX6_hasRoom, yX6_addRule, yX0_isFull, yX6_at, yX6_isInForce, yX6_vaguenessAt, yX6_digitOf, yX6_segmentOf, yX6_countOf, yX6_givePolicies, yX6_lead, yX6_personOf, yX6_policiesOfMethod, yX6_leadElsewhere, yX6_replaceMember, yX6_setPersonIn, yX6_setGroupIn, yX6_policiesOfPerson, yX6_groupsOf, yX6_exchange, yX6_setBit, yX7_isDealt, yX7_isShare, yX7_valueOf, yX7_isOpened, yX0_isFull, yX7_dealShares, yX7_takeForOpening, yX0_isFull, yX0_isFull, yX7_close, yX7_nextDraw, yX7_addTerm, yX7_gather, yX7_forgetGiven, yX7_keyOfGiven, yX7_weightOf, yX7_inverse, yX8_hashOf, yX8_change, yX8_areAllBlocking, yX8_tell, yX8_numberOf, yX9_lastOf, yX9_stateAt, yX9_keyAt, yX9_slotOf, yX9_put, yX9_setState, yX9_numberOrWhyNot, yX9_forget, yX9_rewrapUpTo, yX10_count, yX10_isFull, yX10_isThere, yX10_isAlive, yX10_isBatch, yX10_personOf, yX10_policiesOf, yX10_endAt, yX10_usesLeft, yX10_add, yX10_bound, yX10_limit, yX10_prolong, yX10_handOver, yX10_isUsableFrom, yX10_countUse, yX10_kill, yX10_isLeftByDead, yX11_deal, yX11_share, yX11_give, yX11_seal, yX11_isOpen, yX0_isFull, yX0_isFull, yX11_setBounds, yX11_turn, yX11_retire, yX11_rewrap, yX11_key, yX11_mount, yX11_setQuota, yX11_rule, yX0_isFull, yX11_setPolicies, yX11_alias, yX11_merge, yX11_member, yX11_login, yX11_token, yX11_renewToken, yX11_revokeToken, yX11_uses, yX11_lives, yX0_isFull, yX11_read, yX11_write, yX11_erase, yX11_keyOf, yX11_setSystem, yX11_issue, yX11_renew, yX11_revoke, yX11_stateOf, yX11_endOf, yX11_credentials, yX11_credentialsAnew, yX11_wrap, yX11_open, yX11_approve, yX11_takeUp, yX11_cases, yX11_certify, yX11_revokeCertificate, yX11_publish, yX11_isGood, yX11_issuerOf, yX11_setSink, yX11_hash, yX11_ship, yX11_farRead, yX11_pass, yX11_demandIndex, yX11_demandArgument, yX11_demandState, yX11_isWithin, yX11_isIndex, yX11_isSegment, yX11_isPath, yX11_isPlace, yX11_isVersion, yX11_isDealing, yX11_firstOf, yX11_admit, yX11_conclude, yX11_rightsAt, yX11_refusalOfChild, yX11_letDie, yX11_numberAt, yX11_readOrAsk, yX11_writeAt, yX11_eraseAt, yX11_issueAt, yX11_approveCase, yX11_takeUpCase, yX11_certifyAt, yX11_clearBehindUnmounting, yX11_beginHour, yX0_isFull, yX0_isFull, yX0_isFull, yX0_isFull, yX0_isFull, yX0_isFull, yX0_isFull, yX0_isFull, yX0_isFull, yX0_isFull, yX0_isFull, yX0_isFull, yX0_isFull, yX0_isFull, yX0_isFull, yX0_isFull, yX0_isFull, yX0_isFull, yX0_isFull, yX0_isFull, yX0_isFull, yX0_isFull, yX0_isFull, yX0_isFull, yX0_isFull, yX0_isFull, yX0_isFull, yX0_isFull, yX0_isFull, yX0_isFull, yX0_isFull, yX0_isFull, yX0_isFull, yX0_isFull, yX0_isFull, yX0_isFull, yX0_isFull, yX0_isFull, yX0_isFull, yX0_isFull, yX0_isFull, yX0_isFull, yX0_isFull, yX0_isFull, yX0_isFull, yX0_isFull, yX0_isFull, yX0_isFull, yX0_isFull, yX0_isFull, yX0_isFull, yX0_isFull, yX0_isFull, yX0_isFull, yX0_isFull, yX0_isFull, yX0_isFull, yX0_isFull, yX0_isFull, yX0_isFull, yX0_isFull, yX0_isFull, yX0_isFull, yX0_isFull, yX0_isFull, yX0_isFull, yX0_isFull, yX0_isFull, yX0_isFull, yX0_isFull, yX0_isFull, yX0_isFull, yX0_isFull, yX0_isFull, yX0_isFull, yX0_isFull, yX0_isFull, yX0_isFull, yX0_isFull, yX0_isFull, yX0_isFull, yX0_isFull, yX0_isFull, yX0_isFull, yX0_isFull, yX0_isFull, yX0_isFull, yX0_isFull, yX0_isFull, yX0_isFull, yX0_isFull, yX0_isFull, yX0_isFull, yX0_isFull, yX0_isFull, yX0_isFull, yX0_isFull, yX0_isFull, yX0_isFull, yX0_isFull, yX0_isFull, yX0_isFull, yX0_isFull, yX0_isFull, yX0_isFull, yX0_isFull, yX0_isFull, yX0_isFull, yX0_isFull, yX0_isFull, yX0_isFull, yJ6_bitCount_0f7a4, yJ9_floorMod_7cf53, yL_draw, yL_begins, yL_opens, yL_step, yL_logs, yL_makes, yL_dies, yL_values, yL_credentials, yL_wraps, yL_cases, yL_certificates, yL_people, yL_isWhole, yL_law]
def z_bs : List ByteArray := [cX0_isFull, cX0_isThere, cX0_issuer, cX0_issuerFor, cX0_add, cX0_markRevoked, cX0_publishList, cX0_isGoodAt, cX1_engineAt, cX1_systemAt, cX1_put, cX1_allow, cX1_countRequest, cX1_beginCounting, cX2_store, cX2_logWrite, cX2_logErase, cX2_shipUpTo, cX2_forgetAll, cX2_logEntry, cX2_moveEntry, cX2_repeat, cX3_isWrap, cX3_addWrap, cX3_unwrap, cX3_countOfCases, cX3_isCase, cX3_askerOf, cX3_pathOf, cX3_versionOf, cX3_isPending, cX3_isApproved, cX3_addCase, cX3_addApproval, cX3_close, cX3_closeThoseAt, cX4_bound, cX4_keyOfNow, cX4_leastKey, cX4_setLeast, cX4_makeKey, cX4_keyToKeep, cX5_isFull, cX5_isThere, cX5_tokenOf, cX5_state, cX5_end, cX5_credentialsIn, cX5_change, cX5_makeCredential, cX5_add, cX5_bound, cX5_prolong, cX5_endThoseAt, cX5_endThoseOfDead, cX5_endThoseDue, cX5_tryAgain, cX5_rollBack, cX5_countAnew, cX5_endNow, cX5_tryToRemove, cX6_hasRoom, cX6_addRule, cX0_isFull, cX6_at, cX6_isInForce, cX6_vaguenessAt, cX6_digitOf, cX6_segmentOf, cX6_countOf, cX6_givePolicies, cX6_lead, cX6_personOf, cX6_policiesOfMethod, cX6_leadElsewhere, cX6_replaceMember, cX6_setPersonIn, cX6_setGroupIn, cX6_policiesOfPerson, cX6_groupsOf, cX6_exchange, cX6_setBit, cX7_isDealt, cX7_isShare, cX7_valueOf, cX7_isOpened, cX0_isFull, cX7_dealShares, cX7_takeForOpening, cX0_isFull, cX0_isFull, cX7_close, cX7_nextDraw, cX7_addTerm, cX7_gather, cX7_forgetGiven, cX7_keyOfGiven, cX7_weightOf, cX7_inverse, cX8_hashOf, cX8_change, cX8_areAllBlocking, cX8_tell, cX8_numberOf, cX9_lastOf, cX9_stateAt, cX9_keyAt, cX9_slotOf, cX9_put, cX9_setState, cX9_numberOrWhyNot, cX9_forget, cX9_rewrapUpTo, cX10_count, cX10_isFull, cX10_isThere, cX10_isAlive, cX10_isBatch, cX10_personOf, cX10_policiesOf, cX10_endAt, cX10_usesLeft, cX10_add, cX10_bound, cX10_limit, cX10_prolong, cX10_handOver, cX10_isUsableFrom, cX10_countUse, cX10_kill, cX10_isLeftByDead, cX11_deal, cX11_share, cX11_give, cX11_seal, cX11_isOpen, cX0_isFull, cX0_isFull, cX11_setBounds, cX11_turn, cX11_retire, cX11_rewrap, cX11_key, cX11_mount, cX11_setQuota, cX11_rule, cX0_isFull, cX11_setPolicies, cX11_alias, cX11_merge, cX11_member, cX11_login, cX11_token, cX11_renewToken, cX11_revokeToken, cX11_uses, cX11_lives, cX0_isFull, cX11_read, cX11_write, cX11_erase, cX11_keyOf, cX11_setSystem, cX11_issue, cX11_renew, cX11_revoke, cX11_stateOf, cX11_endOf, cX11_credentials, cX11_credentialsAnew, cX11_wrap, cX11_open, cX11_approve, cX11_takeUp, cX11_cases, cX11_certify, cX11_revokeCertificate, cX11_publish, cX11_isGood, cX11_issuerOf, cX11_setSink, cX11_hash, cX11_ship, cX11_farRead, cX11_pass, cX11_demandIndex, cX11_demandArgument, cX11_demandState, cX11_isWithin, cX11_isIndex, cX11_isSegment, cX11_isPath, cX11_isPlace, cX11_isVersion, cX11_isDealing, cX11_firstOf, cX11_admit, cX11_conclude, cX11_rightsAt, cX11_refusalOfChild, cX11_letDie, cX11_numberAt, cX11_readOrAsk, cX11_writeAt, cX11_eraseAt, cX11_issueAt, cX11_approveCase, cX11_takeUpCase, cX11_certifyAt, cX11_clearBehindUnmounting, cX11_beginHour, cX0_isFull, cX0_isFull, cX0_isFull, cX0_isFull, cX0_isFull, cX0_isFull, cX0_isFull, cX0_isFull, cX0_isFull, cX0_isFull, cX0_isFull, cX0_isFull, cX0_isFull, cX0_isFull, cX0_isFull, cX0_isFull, cX0_isFull, cX0_isFull, cX0_isFull, cX0_isFull, cX0_isFull, cX0_isFull, cX0_isFull, cX0_isFull, cX0_isFull, cX0_isFull, cX0_isFull, cX0_isFull, cX0_isFull, cX0_isFull, cX0_isFull, cX0_isFull, cX0_isFull, cX0_isFull, cX0_isFull, cX0_isFull, cX0_isFull, cX0_isFull, cX0_isFull, cX0_isFull, cX0_isFull, cX0_isFull, cX0_isFull, cX0_isFull, cX0_isFull, cX0_isFull, cX0_isFull, cX0_isFull, cX0_isFull, cX0_isFull, cX0_isFull, cX0_isFull, cX0_isFull, cX0_isFull, cX0_isFull, cX0_isFull, cX0_isFull, cX0_isFull, cX0_isFull, cX0_isFull, cX0_isFull, cX0_isFull, cX0_isFull, cX0_isFull, cX0_isFull, cX0_isFull, cX0_isFull, cX0_isFull, cX0_isFull, cX0_isFull, cX0_isFull, cX0_isFull, cX0_isFull, cX0_isFull, cX0_isFull, cX0_isFull, cX0_isFull, cX0_isFull, cX0_isFull, cX0_isFull, cX0_isFull, cX0_isFull, cX0_isFull, cX0_isFull, cX0_isFull, cX0_isFull, cX0_isFull, cX0_isFull, cX0_isFull, cX0_isFull, cX0_isFull, cX0_isFull, cX0_isFull, cX0_isFull, cX0_isFull, cX0_isFull, cX0_isFull, cX0_isFull, cX0_isFull, cX0_isFull, cX0_isFull, cX0_isFull, cX0_isFull, cX0_isFull, cX0_isFull, cX0_isFull, cX0_isFull, cX0_isFull, cX0_isFull, cX0_isFull, cX0_isFull, cJ6_bitCount_0f7a4, cJ9_floorMod_7cf53, cL_draw, cL_begins, cL_opens, cL_step, cL_logs, cL_makes, cL_dies, cL_values, cL_credentials, cL_wraps, cL_cases, cL_certificates, cL_people, cL_isWhole, cL_law]
/-- what a method is: its locals, its answer, whether static (1) or not (0), its parameters, the frames and locals that its callees need -/
def z_ms : List (Nat × Option FieldType × Nat × Nat × Nat × Nat) := [(1, (some .boolean), 0, 0, 0, 0),
  (2, (some .boolean), 0, 1, 0, 0),
  (2, (some .int), 0, 1, 0, 0),
  (4, (some .int), 0, 1, 0, 0),
  (5, (some .int), 0, 3, 1, 21),
  (3, (some .boolean), 0, 1, 0, 0),
  (4, (some .int), 0, 1, 0, 0),
  (5, (some .boolean), 0, 2, 0, 0),
  (2, (some .int), 0, 1, 0, 0),
  (2, (some .int), 0, 1, 0, 0),
  (4, none, 0, 3, 0, 0),
  (4, (some .int), 0, 2, 0, 0),
  (2, (some .boolean), 0, 1, 0, 0),
  (2, none, 0, 0, 0, 0),
  (1, (some (.object "SealwrightVault$Store")), 0, 0, 0, 0),
  (4, none, 0, 3, 1, 24),
  (4, none, 0, 3, 1, 24),
  (3, (some .int), 0, 1, 3, 69),
  (5, none, 0, 2, 1, 23),
  (5, none, 0, 4, 0, 0),
  (3, none, 0, 2, 0, 0),
  (3, none, 0, 1, 2, 47),
  (2, (some .boolean), 0, 1, 0, 0),
  (4, (some .int), 0, 2, 0, 0),
  (3, (some .int), 0, 2, 0, 0),
  (1, (some .int), 0, 0, 0, 0),
  (2, (some .boolean), 0, 1, 0, 0),
  (2, (some .int), 0, 1, 0, 0),
  (2, (some .int), 0, 1, 0, 0),
  (2, (some .int), 0, 1, 0, 0),
  (2, (some .boolean), 0, 1, 0, 0),
  (2, (some .boolean), 0, 1, 1, 20),
  (5, (some .int), 0, 4, 0, 0),
  (3, (some .int), 0, 2, 1, 20),
  (2, none, 0, 1, 0, 0),
  (4, none, 0, 2, 1, 21),
  (3, none, 0, 2, 0, 0),
  (1, (some .int), 0, 0, 0, 0),
  (1, (some .int), 0, 0, 0, 0),
  (3, (some .int), 0, 1, 0, 0),
  (2, (some .int), 0, 1, 0, 0),
  (2, (some .int), 0, 1, 1, 21),
  (1, (some .boolean), 0, 0, 0, 0),
  (2, (some .boolean), 0, 1, 0, 0),
  (2, (some .int), 0, 1, 0, 0),
  (2, (some .int), 0, 1, 0, 0),
  (2, (some .int), 0, 1, 0, 0),
  (2, (some .int), 0, 1, 0, 0),
  (4, (some .int), 0, 2, 0, 0),
  (2, (some .boolean), 0, 1, 0, 0),
  (5, (some .int), 0, 3, 0, 0),
  (4, none, 0, 3, 0, 0),
  (4, (some .int), 0, 3, 1, 21),
  (6, (some .int), 0, 3, 2, 44),
  (4, none, 0, 2, 2, 44),
  (3, none, 0, 1, 2, 44),
  (3, none, 0, 1, 1, 22),
  (2, none, 0, 0, 0, 0),
  (4, (some .int), 0, 1, 0, 0),
  (3, none, 0, 2, 1, 22),
  (3, none, 0, 1, 0, 0),
  (2, (some .boolean), 0, 1, 0, 0),
  (8, (some .int), 0, 6, 0, 0),
  (1, (some .boolean), 0, 0, 0, 0),
  (11, (some .int), 0, 3, 3, 69),
  (4, (some .boolean), 0, 2, 0, 0),
  (9, (some .int), 0, 3, 2, 41),
  (3, (some .int), 1, 3, 0, 0),
  (2, (some .int), 1, 2, 1, 20),
  (1, (some .int), 1, 1, 0, 0),
  (4, (some .int), 0, 3, 1, 23),
  (4, (some .int), 0, 3, 1, 23),
  (3, (some .int), 0, 2, 0, 0),
  (2, (some .int), 0, 1, 0, 0),
  (5, (some .int), 0, 2, 0, 0),
  (4, none, 0, 2, 2, 47),
  (4, (some .boolean), 0, 3, 1, 24),
  (4, (some .boolean), 0, 3, 1, 24),
  (5, (some .int), 0, 1, 1, 24),
  (5, (some .int), 0, 1, 0, 0),
  (4, (some .int), 1, 3, 0, 0),
  (5, (some .boolean), 1, 4, 0, 0),
  (1, (some .boolean), 0, 0, 0, 0),
  (2, (some .boolean), 0, 1, 0, 0),
  (2, (some .int), 0, 1, 0, 0),
  (1, (some .boolean), 0, 0, 0, 0),
  (1, (some .boolean), 0, 0, 0, 0),
  (6, none, 0, 3, 1, 25),
  (3, (some .int), 0, 2, 3, 68),
  (1, (some .boolean), 0, 0, 0, 0),
  (1, (some .boolean), 0, 0, 0, 0),
  (2, (some .boolean), 0, 0, 1, 21),
  (1, (some .int), 1, 1, 0, 0),
  (6, none, 0, 2, 0, 0),
  (3, (some .int), 0, 2, 0, 0),
  (2, none, 0, 0, 0, 0),
  (3, (some .int), 0, 0, 2, 46),
  (4, (some .int), 0, 1, 1, 23),
  (4, (some .int), 1, 1, 0, 0),
  (2, (some .int), 0, 1, 0, 0),
  (6, (some .boolean), 0, 4, 0, 0),
  (3, (some .boolean), 0, 0, 0, 0),
  (8, none, 0, 4, 1, 20),
  (1, (some .int), 1, 1, 0, 0),
  (2, (some .int), 0, 1, 0, 0),
  (2, (some .int), 0, 1, 0, 0),
  (2, (some .int), 0, 1, 0, 0),
  (6, (some .int), 0, 2, 1, 22),
  (6, (some .int), 0, 3, 1, 22),
  (4, (some .int), 0, 2, 0, 0),
  (5, (some .int), 0, 3, 2, 47),
  (4, none, 0, 2, 0, 0),
  (9, (some .int), 0, 3, 2, 42),
  (1, (some .int), 0, 0, 0, 0),
  (1, (some .boolean), 0, 0, 0, 0),
  (2, (some .boolean), 0, 1, 0, 0),
  (2, (some .boolean), 0, 1, 0, 0),
  (2, (some .boolean), 0, 1, 0, 0),
  (2, (some .int), 0, 1, 0, 0),
  (2, (some .int), 0, 1, 0, 0),
  (2, (some .int), 0, 1, 0, 0),
  (2, (some .int), 0, 1, 0, 0),
  (6, (some .int), 0, 4, 0, 0),
  (5, none, 0, 4, 0, 0),
  (5, none, 0, 4, 0, 0),
  (5, (some .int), 0, 3, 1, 21),
  (4, none, 0, 2, 0, 0),
  (3, (some .boolean), 0, 2, 1, 21),
  (2, none, 0, 1, 0, 0),
  (4, (some .int), 0, 1, 2, 43),
  (3, (some .boolean), 0, 1, 1, 21),
  (4, none, 0, 3, 7, 101),
  (2, (some .int), 0, 1, 7, 101),
  (3, (some .int), 0, 2, 7, 101),
  (1, (some .boolean), 0, 0, 2, 42),
  (1, (some .boolean), 0, 0, 1, 20),
  (1, (some .boolean), 0, 0, 0, 0),
  (1, (some .boolean), 0, 0, 0, 0),
  (3, none, 0, 2, 7, 101),
  (1, (some .int), 0, 0, 1, 21),
  (2, (some .int), 0, 1, 7, 101),
  (2, (some .int), 0, 1, 7, 101),
  (1, (some .int), 0, 0, 1, 20),
  (5, none, 0, 3, 7, 101),
  (3, (some .int), 0, 2, 7, 101),
  (7, (some .int), 0, 6, 7, 101),
  (1, (some .boolean), 0, 0, 0, 0),
  (5, (some .int), 0, 3, 7, 101),
  (4, (some .int), 0, 3, 7, 101),
  (3, (some .int), 0, 2, 7, 101),
  (5, (some .boolean), 0, 4, 7, 101),
  (5, (some .int), 0, 2, 7, 101),
  (11, (some .int), 0, 8, 7, 101),
  (3, (some .int), 0, 2, 7, 101),
  (2, (some .int), 0, 1, 7, 101),
  (2, (some .int), 0, 1, 7, 101),
  (2, (some .boolean), 0, 1, 7, 101),
  (1, (some .boolean), 0, 0, 0, 0),
  (7, (some .int), 0, 4, 7, 146),
  (8, (some .int), 0, 5, 7, 145),
  (8, (some .int), 0, 5, 7, 145),
  (4, (some .int), 0, 2, 7, 101),
  (3, (some .int), 0, 2, 7, 101),
  (8, (some .int), 0, 5, 7, 145),
  (3, (some .int), 0, 2, 7, 101),
  (5, (some .int), 0, 2, 7, 101),
  (2, (some .int), 0, 1, 7, 101),
  (2, (some .int), 0, 1, 7, 101),
  (2, (some .int), 0, 1, 7, 101),
  (2, (some .int), 0, 1, 7, 101),
  (7, (some .int), 0, 4, 7, 146),
  (2, (some .int), 0, 1, 7, 101),
  (7, (some .int), 0, 3, 7, 145),
  (7, (some .int), 0, 3, 7, 145),
  (1, (some .int), 0, 0, 1, 20),
  (7, (some .int), 0, 4, 7, 145),
  (2, (some .boolean), 0, 1, 7, 101),
  (1, (some .int), 0, 0, 1, 23),
  (2, (some .boolean), 0, 1, 7, 101),
  (2, (some .int), 0, 1, 7, 101),
  (5, (some .boolean), 0, 4, 7, 101),
  (2, (some .int), 0, 1, 7, 101),
  (2, (some .int), 0, 1, 7, 101),
  (5, (some .int), 0, 3, 7, 121),
  (3, (some .int), 0, 1, 7, 110),
  (1, none, 1, 1, 6, 81),
  (1, none, 1, 1, 6, 81),
  (1, none, 1, 1, 6, 81),
  (3, (some .boolean), 1, 3, 0, 0),
  (2, (some .boolean), 1, 2, 0, 0),
  (1, (some .boolean), 1, 1, 1, 21),
  (1, (some .boolean), 1, 1, 1, 21),
  (1, (some .boolean), 1, 1, 1, 21),
  (1, (some .boolean), 1, 1, 1, 22),
  (3, (some .boolean), 1, 3, 1, 22),
  (1, (some .int), 1, 1, 0, 0),
  (5, (some .int), 0, 4, 5, 121),
  (6, (some .int), 0, 4, 4, 89),
  (3, (some .int), 0, 2, 4, 99),
  (3, (some .int), 0, 2, 1, 21),
  (3, (some .int), 0, 1, 3, 67),
  (3, (some .int), 0, 2, 3, 71),
  (6, (some .int), 0, 3, 5, 121),
  (5, (some .int), 0, 3, 2, 47),
  (5, (some .int), 0, 3, 2, 47),
  (8, (some .int), 0, 4, 1, 24),
  (5, (some .int), 0, 2, 2, 42),
  (4, (some .int), 0, 2, 4, 93),
  (4, (some .int), 0, 2, 2, 45),
  (4, none, 0, 1, 3, 69),
  (2, none, 0, 0, 4, 89),
  (1, (some .boolean), 0, 0, 0, 0),
  (1, (some .boolean), 0, 0, 0, 0),
  (1, (some .boolean), 0, 0, 0, 0),
  (1, (some .boolean), 0, 0, 0, 0),
  (1, (some .boolean), 0, 0, 0, 0),
  (1, (some .boolean), 0, 0, 0, 0),
  (1, (some .boolean), 0, 0, 0, 0),
  (1, (some .boolean), 0, 0, 0, 0),
  (1, (some .boolean), 0, 0, 0, 0),
  (1, (some .boolean), 0, 0, 0, 0),
  (1, (some .boolean), 0, 0, 0, 0),
  (1, (some .boolean), 0, 0, 0, 0),
  (1, (some .boolean), 0, 0, 0, 0),
  (1, (some .boolean), 0, 0, 0, 0),
  (1, (some .boolean), 0, 0, 0, 0),
  (1, (some .boolean), 0, 0, 0, 0),
  (1, (some .boolean), 0, 0, 0, 0),
  (1, (some .boolean), 0, 0, 0, 0),
  (1, (some .boolean), 0, 0, 0, 0),
  (1, (some .boolean), 0, 0, 0, 0),
  (1, (some .boolean), 0, 0, 0, 0),
  (1, (some .boolean), 0, 0, 0, 0),
  (1, (some .boolean), 0, 0, 0, 0),
  (1, (some .boolean), 0, 0, 0, 0),
  (1, (some .boolean), 0, 0, 0, 0),
  (1, (some .boolean), 0, 0, 0, 0),
  (1, (some .boolean), 0, 0, 0, 0),
  (1, (some .boolean), 0, 0, 0, 0),
  (1, (some .boolean), 0, 0, 0, 0),
  (1, (some .boolean), 0, 0, 0, 0),
  (1, (some .boolean), 0, 0, 0, 0),
  (1, (some .boolean), 0, 0, 0, 0),
  (1, (some .boolean), 0, 0, 0, 0),
  (1, (some .boolean), 0, 0, 0, 0),
  (1, (some .boolean), 0, 0, 0, 0),
  (1, (some .boolean), 0, 0, 0, 0),
  (1, (some .boolean), 0, 0, 0, 0),
  (1, (some .boolean), 0, 0, 0, 0),
  (1, (some .boolean), 0, 0, 0, 0),
  (1, (some .boolean), 0, 0, 0, 0),
  (1, (some .boolean), 0, 0, 0, 0),
  (1, (some .boolean), 0, 0, 0, 0),
  (1, (some .boolean), 0, 0, 0, 0),
  (1, (some .boolean), 0, 0, 0, 0),
  (1, (some .boolean), 0, 0, 0, 0),
  (1, (some .boolean), 0, 0, 0, 0),
  (1, (some .boolean), 0, 0, 0, 0),
  (1, (some .boolean), 0, 0, 0, 0),
  (1, (some .boolean), 0, 0, 0, 0),
  (1, (some .boolean), 0, 0, 0, 0),
  (1, (some .boolean), 0, 0, 0, 0),
  (1, (some .boolean), 0, 0, 0, 0),
  (1, (some .boolean), 0, 0, 0, 0),
  (1, (some .boolean), 0, 0, 0, 0),
  (1, (some .boolean), 0, 0, 0, 0),
  (1, (some .boolean), 0, 0, 0, 0),
  (1, (some .boolean), 0, 0, 0, 0),
  (1, (some .boolean), 0, 0, 0, 0),
  (1, (some .boolean), 0, 0, 0, 0),
  (1, (some .boolean), 0, 0, 0, 0),
  (1, (some .boolean), 0, 0, 0, 0),
  (1, (some .boolean), 0, 0, 0, 0),
  (1, (some .boolean), 0, 0, 0, 0),
  (1, (some .boolean), 0, 0, 0, 0),
  (1, (some .boolean), 0, 0, 0, 0),
  (1, (some .boolean), 0, 0, 0, 0),
  (1, (some .boolean), 0, 0, 0, 0),
  (1, (some .boolean), 0, 0, 0, 0),
  (1, (some .boolean), 0, 0, 0, 0),
  (1, (some .boolean), 0, 0, 0, 0),
  (1, (some .boolean), 0, 0, 0, 0),
  (1, (some .boolean), 0, 0, 0, 0),
  (1, (some .boolean), 0, 0, 0, 0),
  (1, (some .boolean), 0, 0, 0, 0),
  (1, (some .boolean), 0, 0, 0, 0),
  (1, (some .boolean), 0, 0, 0, 0),
  (1, (some .boolean), 0, 0, 0, 0),
  (1, (some .boolean), 0, 0, 0, 0),
  (1, (some .boolean), 0, 0, 0, 0),
  (1, (some .boolean), 0, 0, 0, 0),
  (1, (some .boolean), 0, 0, 0, 0),
  (1, (some .boolean), 0, 0, 0, 0),
  (1, (some .boolean), 0, 0, 0, 0),
  (1, (some .boolean), 0, 0, 0, 0),
  (1, (some .boolean), 0, 0, 0, 0),
  (1, (some .boolean), 0, 0, 0, 0),
  (1, (some .boolean), 0, 0, 0, 0),
  (1, (some .boolean), 0, 0, 0, 0),
  (1, (some .boolean), 0, 0, 0, 0),
  (1, (some .boolean), 0, 0, 0, 0),
  (1, (some .boolean), 0, 0, 0, 0),
  (1, (some .boolean), 0, 0, 0, 0),
  (1, (some .boolean), 0, 0, 0, 0),
  (1, (some .boolean), 0, 0, 0, 0),
  (1, (some .boolean), 0, 0, 0, 0),
  (1, (some .boolean), 0, 0, 0, 0),
  (1, (some .boolean), 0, 0, 0, 0),
  (1, (some .boolean), 0, 0, 0, 0),
  (1, (some .boolean), 0, 0, 0, 0),
  (1, (some .boolean), 0, 0, 0, 0),
  (1, (some .boolean), 0, 0, 0, 0),
  (1, (some .boolean), 0, 0, 0, 0),
  (1, (some .boolean), 0, 0, 0, 0),
  (1, (some .boolean), 0, 0, 0, 0),
  (1, (some .boolean), 0, 0, 0, 0),
  (1, (some .boolean), 0, 0, 0, 0),
  (1, (some .boolean), 0, 0, 0, 0),
  (1, (some .boolean), 0, 0, 0, 0),
  (1, (some .boolean), 0, 0, 0, 0),
  (1, (some .boolean), 0, 0, 0, 0),
  (1, (some .boolean), 0, 0, 0, 0),
  (1, (some .int), 1, 1, 0, 0),
  (3, (some .int), 1, 2, 0, 0),
  (2, (some .int), 1, 2, 0, 0),
  (7, (some .boolean), 1, 4, 9, 146),
  (4, (some .boolean), 1, 2, 8, 123),
  (17, (some .boolean), 1, 6, 9, 204),
  (5, (some .boolean), 1, 4, 8, 125),
  (10, (some .boolean), 1, 5, 8, 131),
  (6, (some .boolean), 1, 4, 8, 122),
  (13, (some .boolean), 1, 7, 8, 172),
  (13, (some .boolean), 1, 7, 8, 172),
  (7, (some .boolean), 1, 5, 8, 172),
  (9, (some .boolean), 1, 6, 8, 171),
  (8, (some .boolean), 1, 6, 8, 171),
  (13, (some .boolean), 1, 3, 8, 125),
  (4, (some .boolean), 1, 2, 8, 122),
  (7, (some .boolean), 1, 1, 10, 240)]
/-- handlers: the exception, the place, the link, its word, the local, the answer -/
def z_hs : List (List (Nat × Nat × Nat × Nat × Nat × Nat)) := [[], [], [], [], [], [], [], [], [], [], [], [], [], [], [], [], [], [], [], [], [], [], [], [], [], [], [], [], [], [], [], [], [], [], [], [], [], [], [], [], [], [], [], [], [], [], [], [], [], [], [], [], [], [], [], [], [], [], [], [], [], [], [], [], [], [], [], [], [], [], [], [], [], [], [], [], [], [], [], [], [], [], [], [], [], [], [], [], [], [], [], [], [], [], [], [], [], [], [], [], [], [], [], [], [], [], [], [], [], [], [], [], [], [], [], [], [], [], [], [], [], [], [], [], [], [], [], [], [], [], [], [], [], [], [], [], [], [], [], [], [], [], [], [], [], [], [], [], [], [], [], [], [], [], [], [], [], [], [], [], [], [], [], [], [], [], [], [], [], [], [], [], [], [], [], [], [], [], [], [], [], [], [], [], [], [], [], [], [], [], [], [], [], [], [], [], [], [], [], [], [], [], [], [], [], [], [], [], [], [], [], [], [], [], [], [], [], [], [], [], [], [], [], [], [], [], [], [], [], [], [], [], [], [], [], [], [], [], [], [], [], [], [], [], [], [], [], [], [], [], [], [], [], [], [], [], [], [], [], [], [], [], [], [], [], [], [], [], [], [], [], [], [], [], [], [], [], [], [], [], [], [], [], [], [], [], [], [], [], [], [], [], [], [], [], [], [], [], [], [], [], [], [], [], [], [], [], [], [], [], [], [], [], [], [], [], [], [], [], [], [], [], [], [], [], [], [], [], [], [], [], [], [], [], [], [], [], [], []]
def z_hh : List (List (Nat × Nat × Nat × Nat)) := [[], [], [], [], [], [], [], [], [], [], [], [], [], [], [], [], [], [], [], [], [], [], [], [], [], [], [], [], [], [], [], [], [], [], [], [], [], [], [], [], [], [], [], [], [], [], [], [], [], [], [], [], [], [], [], [], [], [], [], [], [], [], [], [], [], [], [], [], [], [], [], [], [], [], [], [], [], [], [], [], [], [], [], [], [], [], [], [], [], [], [], [], [], [], [], [], [], [], [], [], [], [], [], [], [], [], [], [], [], [], [], [], [], [], [], [], [], [], [], [], [], [], [], [], [], [], [], [], [], [], [], [], [], [], [], [], [], [], [], [], [], [], [], [], [], [], [], [], [], [], [], [], [], [], [], [], [], [], [], [], [], [], [], [], [], [], [], [], [], [], [], [], [], [], [], [], [], [], [], [], [], [], [], [], [], [], [], [], [], [], [], [], [], [], [], [], [], [], [], [], [], [], [], [], [], [], [], [], [], [], [], [], [], [], [], [], [], [], [], [], [], [], [], [], [], [], [], [], [], [], [], [], [], [], [], [], [], [], [], [], [], [], [], [], [], [], [], [], [], [], [], [], [], [], [], [], [], [], [], [], [], [], [], [], [], [], [], [], [], [], [], [], [], [], [], [], [], [], [], [], [], [], [], [], [], [], [], [], [], [], [], [], [], [], [], [], [], [], [], [], [], [], [], [], [], [], [], [], [], [], [], [], [], [], [], [], [], [], [], [], [], [], [], [], [], [], [], [], [], [], [], [], [], [], [], [], [], [], []]
/-- the places of a method's words: its code, static or instance, selects, initialized -/
def z_ws4 : List (Nat × Nat × Nat × Nat) := [(1237, 1235, 1236, 11), (1282, 1280, 1281, 11), (1290, 1288, 1289, 11), (1241, 1239, 1240, 11), (1249, 1247, 1248, 11), (1298, 1296, 1297, 11), (1258, 1256, 1257, 11), (1245, 1243, 1244, 11), (647, 645, 646, 4), (1083, 1081, 1082, 4), (651, 649, 650, 4), (1306, 1304, 1305, 4), (793, 791, 792, 4), (1417, 1415, 1416, 4), (1048, 1046, 1047, 9), (1003, 1001, 1002, 9), (1060, 1058, 1059, 9), (1347, 1345, 1346, 9), (663, 661, 662, 9), (1007, 1006, 1799, 9), (668, 667, 1543, 9), (1351, 1350, 1805, 9), (1164, 1162, 1163, 10), (1156, 1154, 1155, 10), (1168, 1166, 1167, 10), (965, 963, 964, 10), (1179, 1177, 1178, 10), (1195, 1193, 1194, 10), (1183, 1181, 1182, 10), (1221, 1219, 1220, 10), (1191, 1189, 1190, 10), (1217, 1215, 1216, 10), (860, 858, 859, 10), (1199, 1197, 1198, 10), (688, 686, 687, 10), (684, 682, 683, 10), (1319, 1317, 1318, 3), (570, 568, 569, 3), (847, 845, 846, 3), (1327, 1325, 1326, 3), (999, 997, 998, 3), (995, 993, 994, 3), (1079, 1077, 1078, 7), (1108, 1106, 1107, 7), (1128, 1126, 1127, 7), (1120, 1118, 1119, 7), (1112, 1110, 1111, 7), (1444, 1442, 1443, 7), (1145, 1143, 1144, 7), (1087, 1085, 1086, 7), (1091, 1089, 1090, 7), (1100, 1098, 1099, 7), (1132, 1130, 1131, 7), (672, 670, 671, 7), (894, 892, 893, 7), (1425, 1423, 1424, 7), (1429, 1427, 1428, 7), (1433, 1431, 1432, 7), (1452, 1450, 1451, 7), (676, 675, 1544, 7), (680, 679, 1545, 7), (696, 694, 695, 5), (700, 698, 699, 5), (1237, 1235, 1236, 11), (809, 807, 808, 5), (821, 820, 1550, 5), (825, 824, 1551, 5), (832, 831, 0, 5), (828, 827, 0, 5), (718, 717, 0, 5), (722, 720, 721, 5), (708, 706, 707, 5), (906, 904, 905, 5), (914, 912, 913, 5), (1405, 1403, 1404, 5), (1400, 1398, 1399, 5), (1388, 1386, 1387, 5), (1381, 1379, 1380, 5), (813, 812, 1548, 5), (817, 816, 1549, 5), (711, 710, 0, 5), (1384, 1383, 0, 5), (524, 522, 523, 2), (581, 579, 580, 2), (603, 601, 602, 2), (562, 560, 561, 2), (1237, 1235, 1236, 11), (546, 544, 545, 2), (611, 609, 610, 2), (1237, 1235, 1236, 11), (1237, 1235, 1236, 11), (733, 731, 732, 2), (549, 548, 0, 2), (554, 553, 1537, 2), (615, 614, 1538, 2), (633, 632, 1541, 2), (619, 618, 1539, 2), (623, 622, 1540, 2), (629, 628, 0, 2), (1370, 1368, 1369, 12), (1362, 1360, 1361, 12), (770, 768, 769, 12), (869, 867, 868, 12), (873, 872, 0, 12), (991, 989, 990, 8), (1036, 1034, 1035, 8), (1040, 1038, 1039, 8), (855, 853, 854, 8), (1027, 1025, 1026, 8), (1064, 1062, 1063, 8), (851, 849, 850, 8), (659, 657, 658, 8), (1335, 1333, 1334, 8), (1421, 1419, 1420, 6), (910, 908, 909, 6), (778, 776, 777, 6), (782, 780, 781, 6), (950, 948, 949, 6), (805, 803, 804, 6), (801, 799, 800, 6), (1095, 1093, 1094, 6), (878, 876, 877, 6), (918, 916, 917, 6), (922, 920, 921, 6), (926, 924, 925, 6), (973, 971, 972, 6), (1396, 1394, 1395, 6), (774, 772, 773, 6), (786, 784, 785, 6), (886, 884, 885, 6), (890, 889, 1796, 6), (431, 429, 430, 1), (577, 575, 576, 1), (607, 605, 606, 1), (729, 727, 728, 1), (558, 556, 557, 1), (1237, 1235, 1236, 11), (1237, 1235, 1236, 11), (1315, 1313, 1314, 1), (1310, 1308, 1309, 1), (1323, 1321, 1322, 1), (1331, 1329, 1330, 1), (566, 564, 565, 1), (637, 635, 636, 1), (1302, 1300, 1301, 1), (692, 690, 691, 1), (1237, 1235, 1236, 11), (715, 713, 714, 1), (704, 702, 703, 1), (1392, 1390, 1391, 1), (1377, 1375, 1376, 1), (902, 900, 901, 1), (942, 940, 941, 1), (969, 967, 968, 1), (957, 955, 956, 1), (935, 933, 934, 1), (930, 928, 929, 1), (1237, 1235, 1236, 11), (737, 735, 736, 1), (983, 981, 982, 1), (1052, 1050, 1051, 1), (1031, 1029, 1030, 1), (1141, 1139, 1140, 1), (1071, 1069, 1070, 1), (1124, 1122, 1123, 1), (1137, 1135, 1136, 1), (1116, 1114, 1115, 1), (1104, 1102, 1103, 1), (1440, 1438, 1439, 1), (1448, 1446, 1447, 1), (1152, 1150, 1151, 1), (1160, 1158, 1159, 1), (1175, 1173, 1174, 1), (1209, 1207, 1208, 1), (961, 959, 960, 1), (1229, 1227, 1228, 1), (1294, 1292, 1293, 1), (1254, 1252, 1253, 1), (1262, 1260, 1261, 1), (1286, 1284, 1285, 1), (1358, 1356, 1357, 1), (1366, 1364, 1365, 1), (1343, 1341, 1342, 1), (1044, 1042, 1043, 1), (1409, 1407, 1408, 1), (584, 583, 0, 1), (441, 440, 0, 1), (527, 526, 0, 1), (438, 437, 0, 1), (643, 642, 0, 1), (640, 639, 0, 1), (743, 742, 0, 1), (740, 739, 0, 1), (746, 745, 0, 1), (434, 433, 0, 1), (789, 788, 0, 1), (750, 749, 1546, 1), (864, 863, 1794, 1), (797, 796, 1547, 1), (946, 945, 1797, 1), (882, 881, 1795, 1), (843, 842, 1793, 1), (839, 838, 1792, 1), (987, 986, 1798, 1), (1056, 1055, 1800, 1), (1075, 1074, 1801, 1), (1187, 1186, 1802, 1), (1213, 1212, 1803, 1), (1233, 1232, 1804, 1), (655, 654, 1542, 1), (1413, 1412, 1806, 1), (1237, 1235, 1236, 11), (1237, 1235, 1236, 11), (1237, 1235, 1236, 11), (1237, 1235, 1236, 11), (1237, 1235, 1236, 11), (1237, 1235, 1236, 11), (1237, 1235, 1236, 11), (1237, 1235, 1236, 11), (1237, 1235, 1236, 11), (1237, 1235, 1236, 11), (1237, 1235, 1236, 11), (1237, 1235, 1236, 11), (1237, 1235, 1236, 11), (1237, 1235, 1236, 11), (1237, 1235, 1236, 11), (1237, 1235, 1236, 11), (1237, 1235, 1236, 11), (1237, 1235, 1236, 11), (1237, 1235, 1236, 11), (1237, 1235, 1236, 11), (1237, 1235, 1236, 11), (1237, 1235, 1236, 11), (1237, 1235, 1236, 11), (1237, 1235, 1236, 11), (1237, 1235, 1236, 11), (1237, 1235, 1236, 11), (1237, 1235, 1236, 11), (1237, 1235, 1236, 11), (1237, 1235, 1236, 11), (1237, 1235, 1236, 11), (1237, 1235, 1236, 11), (1237, 1235, 1236, 11), (1237, 1235, 1236, 11), (1237, 1235, 1236, 11), (1237, 1235, 1236, 11), (1237, 1235, 1236, 11), (1237, 1235, 1236, 11), (1237, 1235, 1236, 11), (1237, 1235, 1236, 11), (1237, 1235, 1236, 11), (1237, 1235, 1236, 11), (1237, 1235, 1236, 11), (1237, 1235, 1236, 11), (1237, 1235, 1236, 11), (1237, 1235, 1236, 11), (1237, 1235, 1236, 11), (1237, 1235, 1236, 11), (1237, 1235, 1236, 11), (1237, 1235, 1236, 11), (1237, 1235, 1236, 11), (1237, 1235, 1236, 11), (1237, 1235, 1236, 11), (1237, 1235, 1236, 11), (1237, 1235, 1236, 11), (1237, 1235, 1236, 11), (1237, 1235, 1236, 11), (1237, 1235, 1236, 11), (1237, 1235, 1236, 11), (1237, 1235, 1236, 11), (1237, 1235, 1236, 11), (1237, 1235, 1236, 11), (1237, 1235, 1236, 11), (1237, 1235, 1236, 11), (1237, 1235, 1236, 11), (1237, 1235, 1236, 11), (1237, 1235, 1236, 11), (1237, 1235, 1236, 11), (1237, 1235, 1236, 11), (1237, 1235, 1236, 11), (1237, 1235, 1236, 11), (1237, 1235, 1236, 11), (1237, 1235, 1236, 11), (1237, 1235, 1236, 11), (1237, 1235, 1236, 11), (1237, 1235, 1236, 11), (1237, 1235, 1236, 11), (1237, 1235, 1236, 11), (1237, 1235, 1236, 11), (1237, 1235, 1236, 11), (1237, 1235, 1236, 11), (1237, 1235, 1236, 11), (1237, 1235, 1236, 11), (1237, 1235, 1236, 11), (1237, 1235, 1236, 11), (1237, 1235, 1236, 11), (1237, 1235, 1236, 11), (1237, 1235, 1236, 11), (1237, 1235, 1236, 11), (1237, 1235, 1236, 11), (1237, 1235, 1236, 11), (1237, 1235, 1236, 11), (1237, 1235, 1236, 11), (1237, 1235, 1236, 11), (1237, 1235, 1236, 11), (1237, 1235, 1236, 11), (1237, 1235, 1236, 11), (1237, 1235, 1236, 11), (1237, 1235, 1236, 11), (1237, 1235, 1236, 11), (1237, 1235, 1236, 11), (1237, 1235, 1236, 11), (1237, 1235, 1236, 11), (1237, 1235, 1236, 11), (1237, 1235, 1236, 11), (1237, 1235, 1236, 11), (1237, 1235, 1236, 11), (1237, 1235, 1236, 11), (1237, 1235, 1236, 11), (1237, 1235, 1236, 11), (1237, 1235, 1236, 11), (1237, 1235, 1236, 11), (1202, 1201, 0, 20), (626, 625, 0, 19), (420, 419, 0, 0), (426, 425, 0, 0), (573, 572, 0, 0), (725, 724, 0, 0), (898, 897, 0, 0), (938, 937, 0, 0), (953, 952, 0, 0), (979, 978, 0, 0), (1067, 1066, 0, 0), (1148, 1147, 0, 0), (1171, 1170, 0, 0), (1225, 1224, 0, 0), (1373, 1372, 0, 0), (1436, 1435, 0, 0), (0, 0, 0, 0)]
def z_c_X0_isFull : List zI := [(2, 0, 0, 0, 0), (6, 0, 0, 28, 343), (0, 0, 30, 0, 0), (19, 6, 2, 0, 0), (0, 0, 1, 0, 0), (17, 7, 0, 0, 0), (0, 0, 0, 0, 0), (26, 0, 0, 0, 0)]
def z_p_X0_isFull : List Nat := [0, 1, 4, 6, 9, 10, 13, 14, 15]
def z_c_X0_isThere : List zI := [(1, 1, 0, 0, 0), (18, 8, 2, 0, 0), (1, 1, 0, 0, 0), (2, 0, 0, 0, 0), (6, 0, 0, 28, 343), (19, 8, 3, 0, 0), (0, 0, 1, 0, 0), (17, 9, 0, 0, 0), (0, 0, 0, 0, 0), (26, 0, 0, 0, 0)]
def z_p_X0_isThere : List Nat := [0, 1, 4, 5, 6, 9, 12, 13, 16, 17, 18]
def z_c_X0_issuer : List zI := [(2, 0, 0, 0, 0), (6, 0, 3, 18, 346), (1, 1, 0, 0, 0), (8, 0, 0, 0, 0), (25, 0, 0, 0, 0)]
def z_p_X0_issuer : List Nat := [0, 1, 4, 5, 6, 7]
def z_c_X0_issuerFor : List zI := [(1, 1, 0, 0, 0), (0, 0, 6, 0, 0), (13, 4, 0, 0, 0), (3, 2, 0, 0, 0), (1, 2, 0, 0, 0), (18, 8, 1, 0, 0), (0, 0, (-1), 0, 0), (25, 0, 0, 0, 0), (2, 0, 0, 0, 0), (6, 0, 0, 28, 343), (0, 0, 1, 0, 0), (13, 1, 0, 0, 0), (3, 3, 0, 0, 0), (1, 3, 0, 0, 0), (18, 27, 2, 0, 0), (2, 0, 0, 0, 0), (6, 0, 1, 11, 344), (1, 3, 0, 0, 0), (8, 0, 0, 0, 0), (1, 1, 0, 0, 0), (1, 2, 0, 0, 0), (13, 1, 0, 0, 0), (19, 25, 1, 0, 0), (1, 3, 0, 0, 0), (25, 0, 0, 0, 0), (5, 3, (-1), 0, 0), (17, 13, 0, 0, 0), (0, 0, (-1), 0, 0), (25, 0, 0, 0, 0)]
def z_p_X0_issuerFor : List Nat := [0, 1, 3, 4, 5, 6, 9, 10, 11, 12, 15, 16, 17, 18, 19, 22, 23, 26, 27, 28, 29, 30, 31, 34, 35, 36, 39, 42, 43, 44]
def z_c_X0_add : List zI := [(2, 0, 0, 0, 0), (6, 0, 0, 28, 343), (3, 4, 0, 0, 0), (2, 0, 0, 0, 0), (6, 0, 1, 11, 344), (1, 4, 0, 0, 0), (1, 1, 0, 0, 0), (10, 0, 0, 0, 0), (2, 0, 0, 0, 0), (6, 0, 3, 18, 346), (1, 4, 0, 0, 0), (1, 2, 0, 0, 0), (0, 0, (-1), 0, 0), (19, 16, 1, 0, 0), (1, 4, 0, 0, 0), (17, 17, 0, 0, 0), (1, 2, 0, 0, 0), (10, 0, 0, 0, 0), (2, 0, 0, 0, 0), (6, 0, 2, 15, 345), (1, 4, 0, 0, 0), (1, 2, 0, 0, 0), (0, 0, (-1), 0, 0), (19, 26, 1, 0, 0), (1, 3, 0, 0, 0), (17, 32, 0, 0, 0), (1, 3, 0, 0, 0), (2, 0, 0, 0, 0), (6, 0, 2, 15, 345), (1, 2, 0, 0, 0), (8, 0, 0, 0, 0), (24, 0, 0, 32, 1250), (10, 0, 0, 0, 0), (2, 0, 0, 0, 0), (14, 0, 0, 0, 0), (6, 0, 0, 28, 343), (0, 0, 1, 0, 0), (13, 0, 0, 0, 0), (7, 0, 0, 28, 343), (1, 4, 0, 0, 0), (25, 0, 0, 0, 0)]
def z_p_X0_add : List Nat := [0, 1, 4, 6, 7, 10, 12, 13, 14, 15, 18, 20, 21, 22, 25, 27, 30, 31, 32, 33, 36, 38, 39, 40, 43, 44, 47, 48, 49, 52, 53, 54, 57, 58, 59, 60, 63, 64, 65, 68, 70, 71]
def z_c_X0_markRevoked : List zI := [(2, 0, 0, 0, 0), (6, 0, 4, 21, 347), (1, 1, 0, 0, 0), (9, 0, 0, 0, 0), (18, 7, 1, 0, 0), (0, 0, 1, 0, 0), (17, 8, 0, 0, 0), (0, 0, 0, 0, 0), (3, 2, 0, 0, 0), (2, 0, 0, 0, 0), (6, 0, 4, 21, 347), (1, 1, 0, 0, 0), (0, 0, 1, 0, 0), (11, 0, 0, 0, 0), (1, 2, 0, 0, 0), (26, 0, 0, 0, 0)]
def z_p_X0_markRevoked : List Nat := [0, 1, 4, 5, 6, 9, 10, 13, 14, 15, 16, 19, 20, 21, 22, 23, 24]
def z_c_X0_publishList : List zI := [(0, 0, 0, 0, 0), (3, 2, 0, 0, 0), (0, 0, 0, 0, 0), (3, 3, 0, 0, 0), (1, 3, 0, 0, 0), (2, 0, 0, 0, 0), (6, 0, 0, 28, 343), (19, 34, 3, 0, 0), (2, 0, 0, 0, 0), (6, 0, 5, 25, 348), (1, 3, 0, 0, 0), (2, 0, 0, 0, 0), (6, 0, 4, 21, 347), (1, 3, 0, 0, 0), (9, 0, 0, 0, 0), (18, 24, 0, 0, 0), (2, 0, 0, 0, 0), (6, 0, 2, 15, 345), (1, 3, 0, 0, 0), (8, 0, 0, 0, 0), (1, 1, 0, 0, 0), (19, 24, 5, 0, 0), (0, 0, 1, 0, 0), (17, 25, 0, 0, 0), (0, 0, 0, 0, 0), (11, 0, 0, 0, 0), (2, 0, 0, 0, 0), (6, 0, 5, 25, 348), (1, 3, 0, 0, 0), (9, 0, 0, 0, 0), (18, 32, 0, 0, 0), (5, 2, 1, 0, 0), (5, 3, 1, 0, 0), (17, 4, 0, 0, 0), (1, 2, 0, 0, 0), (25, 0, 0, 0, 0)]
def z_p_X0_publishList : List Nat := [0, 1, 2, 3, 4, 5, 6, 9, 12, 13, 16, 17, 18, 21, 22, 23, 26, 27, 30, 31, 32, 33, 36, 37, 40, 41, 42, 43, 46, 47, 48, 51, 54, 57, 60, 61, 62]
def z_c_X0_isGoodAt : List zI := [(1, 1, 0, 0, 0), (3, 3, 0, 0, 0), (0, 0, 0, 0, 0), (3, 4, 0, 0, 0), (1, 4, 0, 0, 0), (2, 0, 0, 0, 0), (6, 0, 0, 28, 343), (19, 36, 3, 0, 0), (2, 0, 0, 0, 0), (6, 0, 2, 15, 345), (1, 3, 0, 0, 0), (8, 0, 0, 0, 0), (1, 2, 0, 0, 0), (19, 19, 5, 0, 0), (2, 0, 0, 0, 0), (6, 0, 5, 25, 348), (1, 3, 0, 0, 0), (9, 0, 0, 0, 0), (18, 21, 0, 0, 0), (0, 0, 0, 0, 0), (26, 0, 0, 0, 0), (2, 0, 0, 0, 0), (6, 0, 3, 18, 346), (1, 3, 0, 0, 0), (8, 0, 0, 0, 0), (1, 3, 0, 0, 0), (19, 29, 1, 0, 0), (0, 0, 1, 0, 0), (26, 0, 0, 0, 0), (2, 0, 0, 0, 0), (6, 0, 3, 18, 346), (1, 3, 0, 0, 0), (8, 0, 0, 0, 0), (3, 3, 0, 0, 0), (5, 4, 1, 0, 0), (17, 4, 0, 0, 0), (0, 0, 1, 0, 0), (26, 0, 0, 0, 0)]
def z_p_X0_isGoodAt : List Nat := [0, 1, 2, 3, 5, 7, 8, 11, 14, 15, 18, 19, 20, 21, 24, 25, 28, 29, 30, 33, 34, 35, 36, 39, 40, 41, 42, 45, 46, 47, 48, 51, 52, 53, 54, 57, 60, 61, 62]
def z_c_X1_engineAt : List zI := [(2, 0, 0, 0, 0), (6, 1, 0, 9, 98), (1, 1, 0, 0, 0), (8, 0, 0, 0, 0), (25, 0, 0, 0, 0)]
def z_p_X1_engineAt : List Nat := [0, 1, 4, 5, 6, 7]
def z_c_X1_systemAt : List zI := [(2, 0, 0, 0, 0), (6, 1, 1, 15, 99), (1, 1, 0, 0, 0), (8, 0, 0, 0, 0), (25, 0, 0, 0, 0)]
def z_p_X1_systemAt : List Nat := [0, 1, 4, 5, 6, 7]
def z_c_X1_put : List zI := [(2, 0, 0, 0, 0), (6, 1, 0, 9, 98), (1, 1, 0, 0, 0), (1, 2, 0, 0, 0), (10, 0, 0, 0, 0), (2, 0, 0, 0, 0), (6, 1, 1, 15, 99), (1, 1, 0, 0, 0), (1, 3, 0, 0, 0), (10, 0, 0, 0, 0), (27, 0, 0, 0, 0)]
def z_p_X1_put : List Nat := [0, 1, 4, 5, 6, 7, 8, 11, 12, 13, 14, 15]
def z_c_X1_allow : List zI := [(2, 0, 0, 0, 0), (6, 1, 2, 18, 100), (1, 1, 0, 0, 0), (8, 0, 0, 0, 0), (3, 3, 0, 0, 0), (2, 0, 0, 0, 0), (6, 1, 2, 18, 100), (1, 1, 0, 0, 0), (1, 2, 0, 0, 0), (10, 0, 0, 0, 0), (1, 3, 0, 0, 0), (25, 0, 0, 0, 0)]
def z_p_X1_allow : List Nat := [0, 1, 4, 5, 6, 7, 8, 11, 12, 13, 14, 15, 16]
def z_c_X1_countRequest : List zI := [(2, 0, 0, 0, 0), (6, 1, 3, 21, 101), (1, 1, 0, 0, 0), (8, 0, 0, 0, 0), (2, 0, 0, 0, 0), (6, 1, 2, 18, 100), (1, 1, 0, 0, 0), (8, 0, 0, 0, 0), (19, 11, 2, 0, 0), (0, 0, 0, 0, 0), (26, 0, 0, 0, 0), (2, 0, 0, 0, 0), (6, 1, 3, 21, 101), (1, 1, 0, 0, 0), (15, 0, 0, 0, 0), (8, 0, 0, 0, 0), (0, 0, 1, 0, 0), (13, 0, 0, 0, 0), (10, 0, 0, 0, 0), (0, 0, 1, 0, 0), (26, 0, 0, 0, 0)]
def z_p_X1_countRequest : List Nat := [0, 1, 4, 5, 6, 7, 10, 11, 12, 15, 16, 17, 18, 21, 22, 23, 24, 25, 26, 27, 28, 29]
def z_c_X1_beginCounting : List zI := [(0, 0, 0, 0, 0), (3, 1, 0, 0, 0), (1, 1, 0, 0, 0), (0, 0, 6, 0, 0), (19, 12, 3, 0, 0), (2, 0, 0, 0, 0), (6, 1, 3, 21, 101), (1, 1, 0, 0, 0), (0, 0, 0, 0, 0), (10, 0, 0, 0, 0), (5, 1, 1, 0, 0), (17, 2, 0, 0, 0), (27, 0, 0, 0, 0)]
def z_p_X1_beginCounting : List Nat := [0, 1, 2, 3, 5, 8, 9, 12, 13, 14, 15, 18, 21, 22]
def z_c_X2_store : List zI := [(2, 0, 0, 0, 0), (6, 2, 0, 12, 275), (28, 0, 0, 0, 0)]
def z_p_X2_store : List Nat := [0, 1, 4, 5]
def z_c_X2_logWrite : List zI := [(2, 0, 0, 0, 0), (1, 1, 0, 0, 0), (0, 0, 0, 0, 0), (1, 2, 0, 0, 0), (1, 3, 0, 0, 0), (21, 19, 2, 31, 1004), (27, 0, 0, 0, 0)]
def z_p_X2_logWrite : List Nat := [0, 1, 2, 3, 4, 5, 8, 9]
def z_c_X2_logErase : List zI := [(2, 0, 0, 0, 0), (1, 1, 0, 0, 0), (1, 2, 0, 0, 0), (1, 3, 0, 0, 0), (0, 0, 0, 0, 0), (21, 19, 2, 31, 1004), (27, 0, 0, 0, 0)]
def z_p_X2_logErase : List Nat := [0, 1, 2, 3, 4, 5, 8, 9]
def z_c_X2_shipUpTo : List zI := [(0, 0, 0, 0, 0), (3, 2, 0, 0, 0), (1, 2, 0, 0, 0), (1, 1, 0, 0, 0), (19, 22, 3, 0, 0), (2, 0, 0, 0, 0), (6, 2, 6, 35, 281), (2, 0, 0, 0, 0), (6, 2, 5, 39, 280), (19, 22, 3, 0, 0), (2, 0, 0, 0, 0), (2, 0, 0, 0, 0), (6, 2, 6, 35, 281), (21, 21, 2, 42, 1348), (2, 0, 0, 0, 0), (14, 0, 0, 0, 0), (6, 2, 6, 35, 281), (0, 0, 1, 0, 0), (13, 0, 0, 0, 0), (7, 2, 6, 35, 281), (5, 2, 1, 0, 0), (17, 2, 0, 0, 0), (2, 0, 0, 0, 0), (6, 2, 5, 39, 280), (2, 0, 0, 0, 0), (6, 2, 6, 35, 281), (13, 1, 0, 0, 0), (25, 0, 0, 0, 0)]
def z_p_X2_shipUpTo : List Nat := [0, 1, 2, 3, 4, 7, 8, 11, 12, 15, 18, 19, 20, 23, 26, 27, 28, 31, 32, 33, 36, 39, 42, 43, 46, 47, 50, 51, 52]
def z_c_X2_forgetAll : List zI := [(2, 0, 0, 0, 0), (6, 2, 0, 12, 275), (1, 1, 0, 0, 0), (1, 2, 0, 0, 0), (21, 111, 9, 46, 664), (2, 0, 0, 0, 0), (6, 2, 6, 35, 281), (3, 3, 0, 0, 0), (2, 0, 0, 0, 0), (6, 2, 6, 35, 281), (3, 4, 0, 0, 0), (1, 4, 0, 0, 0), (2, 0, 0, 0, 0), (6, 2, 5, 39, 280), (19, 34, 3, 0, 0), (2, 0, 0, 0, 0), (6, 2, 1, 18, 276), (1, 4, 0, 0, 0), (8, 0, 0, 0, 0), (1, 1, 0, 0, 0), (19, 27, 2, 0, 0), (2, 0, 0, 0, 0), (6, 2, 1, 18, 276), (1, 4, 0, 0, 0), (8, 0, 0, 0, 0), (1, 2, 0, 0, 0), (19, 32, 2, 0, 0), (2, 0, 0, 0, 0), (1, 4, 0, 0, 0), (1, 3, 0, 0, 0), (21, 20, 2, 50, 665), (5, 3, 1, 0, 0), (5, 4, 1, 0, 0), (17, 11, 0, 0, 0), (2, 0, 0, 0, 0), (1, 3, 0, 0, 0), (7, 2, 5, 39, 280), (27, 0, 0, 0, 0)]
def z_p_X2_forgetAll : List Nat := [0, 1, 4, 5, 6, 9, 10, 13, 14, 15, 18, 20, 22, 23, 26, 29, 30, 33, 35, 36, 37, 40, 41, 44, 46, 47, 48, 51, 52, 54, 55, 58, 61, 64, 67, 68, 69, 72, 73]
def z_c_X2_logEntry : List zI := [(2, 0, 0, 0, 0), (6, 2, 5, 39, 280), (0, 0, 512, 0, 0), (19, 5, 2, 0, 0), (27, 0, 0, 0, 0), (2, 0, 0, 0, 0), (6, 2, 1, 18, 276), (2, 0, 0, 0, 0), (6, 2, 5, 39, 280), (1, 1, 0, 0, 0), (10, 0, 0, 0, 0), (2, 0, 0, 0, 0), (6, 2, 2, 22, 277), (2, 0, 0, 0, 0), (6, 2, 5, 39, 280), (1, 2, 0, 0, 0), (10, 0, 0, 0, 0), (2, 0, 0, 0, 0), (6, 2, 3, 25, 278), (2, 0, 0, 0, 0), (6, 2, 5, 39, 280), (1, 3, 0, 0, 0), (10, 0, 0, 0, 0), (2, 0, 0, 0, 0), (6, 2, 4, 28, 279), (2, 0, 0, 0, 0), (6, 2, 5, 39, 280), (1, 4, 0, 0, 0), (10, 0, 0, 0, 0), (2, 0, 0, 0, 0), (14, 0, 0, 0, 0), (6, 2, 5, 39, 280), (0, 0, 1, 0, 0), (13, 0, 0, 0, 0), (7, 2, 5, 39, 280), (27, 0, 0, 0, 0)]
def z_p_X2_logEntry : List Nat := [0, 1, 4, 7, 10, 11, 12, 15, 16, 19, 20, 21, 22, 25, 26, 29, 30, 31, 32, 35, 36, 39, 40, 41, 42, 45, 46, 49, 51, 52, 53, 54, 57, 58, 59, 62, 63]
def z_c_X2_moveEntry : List zI := [(2, 0, 0, 0, 0), (6, 2, 1, 18, 276), (1, 2, 0, 0, 0), (2, 0, 0, 0, 0), (6, 2, 1, 18, 276), (1, 1, 0, 0, 0), (8, 0, 0, 0, 0), (10, 0, 0, 0, 0), (2, 0, 0, 0, 0), (6, 2, 2, 22, 277), (1, 2, 0, 0, 0), (2, 0, 0, 0, 0), (6, 2, 2, 22, 277), (1, 1, 0, 0, 0), (8, 0, 0, 0, 0), (10, 0, 0, 0, 0), (2, 0, 0, 0, 0), (6, 2, 3, 25, 278), (1, 2, 0, 0, 0), (2, 0, 0, 0, 0), (6, 2, 3, 25, 278), (1, 1, 0, 0, 0), (8, 0, 0, 0, 0), (10, 0, 0, 0, 0), (2, 0, 0, 0, 0), (6, 2, 4, 28, 279), (1, 2, 0, 0, 0), (2, 0, 0, 0, 0), (6, 2, 4, 28, 279), (1, 1, 0, 0, 0), (8, 0, 0, 0, 0), (10, 0, 0, 0, 0), (27, 0, 0, 0, 0)]
def z_p_X2_moveEntry : List Nat := [0, 1, 4, 5, 6, 9, 10, 11, 12, 13, 16, 17, 18, 21, 22, 23, 24, 25, 28, 29, 30, 33, 34, 35, 36, 37, 40, 41, 42, 45, 46, 47, 48, 49]
def z_c_X2_repeat : List zI := [(2, 0, 0, 0, 0), (6, 2, 4, 28, 279), (1, 1, 0, 0, 0), (8, 0, 0, 0, 0), (18, 22, 0, 0, 0), (2, 0, 0, 0, 0), (6, 2, 0, 12, 275), (2, 0, 0, 0, 0), (6, 2, 1, 18, 276), (1, 1, 0, 0, 0), (8, 0, 0, 0, 0), (2, 0, 0, 0, 0), (6, 2, 3, 25, 278), (1, 1, 0, 0, 0), (8, 0, 0, 0, 0), (2, 0, 0, 0, 0), (6, 2, 4, 28, 279), (1, 1, 0, 0, 0), (8, 0, 0, 0, 0), (21, 108, 9, 53, 1352), (16, 0, 0, 0, 0), (27, 0, 0, 0, 0), (2, 0, 0, 0, 0), (6, 2, 0, 12, 275), (2, 0, 0, 0, 0), (6, 2, 1, 18, 276), (1, 1, 0, 0, 0), (8, 0, 0, 0, 0), (2, 0, 0, 0, 0), (6, 2, 2, 22, 277), (1, 1, 0, 0, 0), (8, 0, 0, 0, 0), (21, 107, 9, 57, 1353), (3, 2, 0, 0, 0), (1, 2, 0, 0, 0), (0, 0, (-1), 0, 0), (19, 46, 0, 0, 0), (2, 0, 0, 0, 0), (6, 2, 0, 12, 275), (1, 2, 0, 0, 0), (2, 0, 0, 0, 0), (6, 2, 3, 25, 278), (1, 1, 0, 0, 0), (8, 0, 0, 0, 0), (21, 109, 9, 61, 1354), (16, 0, 0, 0, 0), (27, 0, 0, 0, 0)]
def z_p_X2_repeat : List Nat := [0, 1, 4, 5, 6, 9, 10, 13, 14, 17, 18, 19, 20, 23, 24, 25, 26, 29, 30, 31, 34, 35, 36, 37, 40, 41, 44, 45, 46, 47, 50, 51, 52, 55, 56, 57, 58, 61, 62, 65, 66, 67, 70, 71, 72, 75, 76, 77]
def z_c_X3_isWrap : List zI := [(1, 1, 0, 0, 0), (18, 8, 2, 0, 0), (1, 1, 0, 0, 0), (2, 0, 0, 0, 0), (6, 3, 0, 40, 303), (19, 8, 3, 0, 0), (0, 0, 1, 0, 0), (17, 9, 0, 0, 0), (0, 0, 0, 0, 0), (26, 0, 0, 0, 0)]
def z_p_X3_isWrap : List Nat := [0, 1, 4, 5, 6, 9, 12, 13, 16, 17, 18]
def z_c_X3_addWrap : List zI := [(2, 0, 0, 0, 0), (6, 3, 0, 40, 303), (0, 0, 20, 0, 0), (19, 6, 2, 0, 0), (0, 0, (-11), 0, 0), (25, 0, 0, 0, 0), (2, 0, 0, 0, 0), (6, 3, 0, 40, 303), (3, 3, 0, 0, 0), (2, 0, 0, 0, 0), (6, 3, 1, 11, 304), (1, 3, 0, 0, 0), (1, 1, 0, 0, 0), (10, 0, 0, 0, 0), (2, 0, 0, 0, 0), (6, 3, 2, 15, 305), (1, 3, 0, 0, 0), (1, 2, 0, 0, 0), (10, 0, 0, 0, 0), (2, 0, 0, 0, 0), (14, 0, 0, 0, 0), (6, 3, 0, 40, 303), (0, 0, 1, 0, 0), (13, 0, 0, 0, 0), (7, 3, 0, 40, 303), (1, 3, 0, 0, 0), (25, 0, 0, 0, 0)]
def z_p_X3_addWrap : List Nat := [0, 1, 4, 6, 9, 11, 12, 13, 16, 17, 18, 21, 22, 23, 24, 25, 28, 29, 30, 31, 32, 33, 36, 37, 38, 41, 42, 43]
def z_c_X3_unwrap : List zI := [(2, 0, 0, 0, 0), (6, 3, 3, 18, 306), (1, 1, 0, 0, 0), (9, 0, 0, 0, 0), (18, 13, 1, 0, 0), (1, 2, 0, 0, 0), (2, 0, 0, 0, 0), (6, 3, 2, 15, 305), (1, 1, 0, 0, 0), (8, 0, 0, 0, 0), (13, 1, 0, 0, 0), (0, 0, 5, 0, 0), (19, 15, 5, 0, 0), (0, 0, (-7), 0, 0), (25, 0, 0, 0, 0), (2, 0, 0, 0, 0), (6, 3, 3, 18, 306), (1, 1, 0, 0, 0), (0, 0, 1, 0, 0), (11, 0, 0, 0, 0), (2, 0, 0, 0, 0), (6, 3, 1, 11, 304), (1, 1, 0, 0, 0), (8, 0, 0, 0, 0), (25, 0, 0, 0, 0)]
def z_p_X3_unwrap : List Nat := [0, 1, 4, 5, 6, 9, 10, 11, 14, 15, 16, 17, 18, 21, 23, 24, 25, 28, 29, 30, 31, 32, 35, 36, 37, 38]
def z_c_X3_countOfCases : List zI := [(2, 0, 0, 0, 0), (6, 3, 4, 44, 307), (25, 0, 0, 0, 0)]
def z_p_X3_countOfCases : List Nat := [0, 1, 4, 5]
def z_c_X3_isCase : List zI := [(1, 1, 0, 0, 0), (18, 8, 2, 0, 0), (1, 1, 0, 0, 0), (2, 0, 0, 0, 0), (6, 3, 4, 44, 307), (19, 8, 3, 0, 0), (0, 0, 1, 0, 0), (17, 9, 0, 0, 0), (0, 0, 0, 0, 0), (26, 0, 0, 0, 0)]
def z_p_X3_isCase : List Nat := [0, 1, 4, 5, 6, 9, 12, 13, 16, 17, 18]
def z_c_X3_askerOf : List zI := [(2, 0, 0, 0, 0), (6, 3, 5, 22, 308), (1, 1, 0, 0, 0), (8, 0, 0, 0, 0), (25, 0, 0, 0, 0)]
def z_p_X3_askerOf : List Nat := [0, 1, 4, 5, 6, 7]
def z_c_X3_pathOf : List zI := [(2, 0, 0, 0, 0), (6, 3, 6, 25, 309), (1, 1, 0, 0, 0), (8, 0, 0, 0, 0), (25, 0, 0, 0, 0)]
def z_p_X3_pathOf : List Nat := [0, 1, 4, 5, 6, 7]
def z_c_X3_versionOf : List zI := [(2, 0, 0, 0, 0), (6, 3, 7, 28, 310), (1, 1, 0, 0, 0), (8, 0, 0, 0, 0), (25, 0, 0, 0, 0)]
def z_p_X3_versionOf : List Nat := [0, 1, 4, 5, 6, 7]
def z_c_X3_isPending : List zI := [(2, 0, 0, 0, 0), (6, 3, 10, 37, 313), (1, 1, 0, 0, 0), (9, 0, 0, 0, 0), (18, 7, 1, 0, 0), (0, 0, 1, 0, 0), (17, 8, 0, 0, 0), (0, 0, 0, 0, 0), (26, 0, 0, 0, 0)]
def z_p_X3_isPending : List Nat := [0, 1, 4, 5, 6, 9, 10, 13, 14, 15]
def z_c_X3_isApproved : List zI := [(2, 0, 0, 0, 0), (6, 3, 9, 34, 312), (1, 1, 0, 0, 0), (8, 0, 0, 0, 0), (22, 322, 0, 47, 1200), (2, 0, 0, 0, 0), (6, 3, 8, 31, 311), (1, 1, 0, 0, 0), (8, 0, 0, 0, 0), (19, 12, 2, 0, 0), (0, 0, 1, 0, 0), (17, 13, 0, 0, 0), (0, 0, 0, 0, 0), (26, 0, 0, 0, 0)]
def z_p_X3_isApproved : List Nat := [0, 1, 4, 5, 6, 9, 10, 13, 14, 15, 18, 19, 22, 23, 24]
def z_c_X3_addCase : List zI := [(2, 0, 0, 0, 0), (6, 3, 4, 44, 307), (0, 0, 20, 0, 0), (19, 6, 2, 0, 0), (0, 0, (-11), 0, 0), (25, 0, 0, 0, 0), (2, 0, 0, 0, 0), (6, 3, 5, 22, 308), (2, 0, 0, 0, 0), (6, 3, 4, 44, 307), (1, 1, 0, 0, 0), (10, 0, 0, 0, 0), (2, 0, 0, 0, 0), (6, 3, 6, 25, 309), (2, 0, 0, 0, 0), (6, 3, 4, 44, 307), (1, 2, 0, 0, 0), (10, 0, 0, 0, 0), (2, 0, 0, 0, 0), (6, 3, 7, 28, 310), (2, 0, 0, 0, 0), (6, 3, 4, 44, 307), (1, 3, 0, 0, 0), (10, 0, 0, 0, 0), (2, 0, 0, 0, 0), (6, 3, 8, 31, 311), (2, 0, 0, 0, 0), (6, 3, 4, 44, 307), (1, 4, 0, 0, 0), (10, 0, 0, 0, 0), (2, 0, 0, 0, 0), (14, 0, 0, 0, 0), (6, 3, 4, 44, 307), (0, 0, 1, 0, 0), (13, 0, 0, 0, 0), (7, 3, 4, 44, 307), (0, 0, (-10), 0, 0), (25, 0, 0, 0, 0)]
def z_p_X3_addCase : List Nat := [0, 1, 4, 6, 9, 11, 12, 13, 16, 17, 20, 21, 22, 23, 26, 27, 30, 31, 32, 33, 36, 37, 40, 41, 42, 43, 46, 47, 50, 52, 53, 54, 55, 58, 59, 60, 63, 65, 66]
def z_c_X3_addApproval : List zI := [(2, 0, 0, 0, 0), (6, 3, 9, 34, 312), (1, 1, 0, 0, 0), (15, 0, 0, 0, 0), (8, 0, 0, 0, 0), (0, 0, 1, 0, 0), (1, 2, 0, 0, 0), (13, 8, 0, 0, 0), (13, 6, 0, 0, 0), (10, 0, 0, 0, 0), (2, 0, 0, 0, 0), (6, 3, 9, 34, 312), (1, 1, 0, 0, 0), (8, 0, 0, 0, 0), (22, 322, 0, 47, 1200), (25, 0, 0, 0, 0)]
def z_p_X3_addApproval : List Nat := [0, 1, 4, 5, 6, 7, 8, 9, 10, 11, 12, 13, 16, 17, 18, 21, 22]
def z_c_X3_close : List zI := [(2, 0, 0, 0, 0), (6, 3, 10, 37, 313), (1, 1, 0, 0, 0), (0, 0, 1, 0, 0), (11, 0, 0, 0, 0), (27, 0, 0, 0, 0)]
def z_p_X3_close : List Nat := [0, 1, 4, 5, 6, 7, 8]
def z_c_X3_closeThoseAt : List zI := [(0, 0, 0, 0, 0), (3, 3, 0, 0, 0), (1, 3, 0, 0, 0), (2, 0, 0, 0, 0), (6, 3, 4, 44, 307), (19, 23, 3, 0, 0), (2, 0, 0, 0, 0), (6, 3, 6, 25, 309), (1, 3, 0, 0, 0), (8, 0, 0, 0, 0), (1, 1, 0, 0, 0), (19, 21, 2, 0, 0), (2, 0, 0, 0, 0), (6, 3, 6, 25, 309), (1, 3, 0, 0, 0), (8, 0, 0, 0, 0), (1, 2, 0, 0, 0), (19, 21, 3, 0, 0), (2, 0, 0, 0, 0), (1, 3, 0, 0, 0), (21, 34, 3, 53, 685), (5, 3, 1, 0, 0), (17, 2, 0, 0, 0), (27, 0, 0, 0, 0)]
def z_p_X3_closeThoseAt : List Nat := [0, 1, 2, 3, 4, 7, 10, 11, 14, 15, 16, 17, 20, 21, 24, 25, 26, 27, 30, 31, 32, 35, 38, 41, 42]
def z_c_X4_bound : List zI := [(2, 0, 0, 0, 0), (1, 1, 0, 0, 0), (7, 4, 4, 16, 77), (2, 0, 0, 0, 0), (1, 2, 0, 0, 0), (7, 4, 5, 19, 78), (27, 0, 0, 0, 0)]
def z_p_X4_bound : List Nat := [0, 1, 2, 5, 6, 7, 10, 11]
def z_c_X4_keyOfNow : List zI := [(2, 0, 0, 0, 0), (6, 4, 0, 7, 73), (25, 0, 0, 0, 0)]
def z_p_X4_keyOfNow : List Nat := [0, 1, 4, 5]
def z_c_X4_leastKey : List zI := [(2, 0, 0, 0, 0), (6, 4, 3, 13, 76), (25, 0, 0, 0, 0)]
def z_p_X4_leastKey : List Nat := [0, 1, 4, 5]
def z_c_X4_setLeast : List zI := [(2, 0, 0, 0, 0), (6, 4, 3, 13, 76), (3, 2, 0, 0, 0), (2, 0, 0, 0, 0), (1, 1, 0, 0, 0), (7, 4, 3, 13, 76), (1, 2, 0, 0, 0), (25, 0, 0, 0, 0)]
def z_p_X4_setLeast : List Nat := [0, 1, 4, 5, 6, 7, 10, 11, 12]
def z_c_X4_makeKey : List zI := [(2, 0, 0, 0, 0), (14, 0, 0, 0, 0), (6, 4, 0, 7, 73), (0, 0, 1, 0, 0), (13, 0, 0, 0, 0), (7, 4, 0, 7, 73), (2, 0, 0, 0, 0), (0, 0, 0, 0, 0), (7, 4, 1, 22, 74), (2, 0, 0, 0, 0), (1, 1, 0, 0, 0), (7, 4, 2, 25, 75), (2, 0, 0, 0, 0), (6, 4, 0, 7, 73), (25, 0, 0, 0, 0)]
def z_p_X4_makeKey : List Nat := [0, 1, 2, 5, 6, 7, 10, 11, 12, 15, 16, 17, 20, 21, 24, 25]
def z_c_X4_keyToKeep : List zI := [(2, 0, 0, 0, 0), (6, 4, 1, 22, 74), (2, 0, 0, 0, 0), (6, 4, 4, 16, 77), (19, 12, 3, 0, 0), (1, 1, 0, 0, 0), (2, 0, 0, 0, 0), (6, 4, 2, 25, 75), (13, 1, 0, 0, 0), (2, 0, 0, 0, 0), (6, 4, 5, 19, 78), (19, 16, 2, 0, 0), (2, 0, 0, 0, 0), (1, 1, 0, 0, 0), (21, 40, 4, 28, 996), (16, 0, 0, 0, 0), (2, 0, 0, 0, 0), (14, 0, 0, 0, 0), (6, 4, 1, 22, 74), (0, 0, 1, 0, 0), (13, 0, 0, 0, 0), (7, 4, 1, 22, 74), (2, 0, 0, 0, 0), (6, 4, 0, 7, 73), (25, 0, 0, 0, 0)]
def z_p_X4_keyToKeep : List Nat := [0, 1, 4, 5, 8, 11, 12, 13, 16, 17, 18, 21, 24, 25, 26, 29, 30, 31, 32, 35, 36, 37, 40, 41, 44, 45]
def z_c_X5_isFull : List zI := [(2, 0, 0, 0, 0), (6, 5, 0, 42, 198), (0, 0, 40, 0, 0), (19, 6, 2, 0, 0), (0, 0, 1, 0, 0), (17, 7, 0, 0, 0), (0, 0, 0, 0, 0), (26, 0, 0, 0, 0)]
def z_p_X5_isFull : List Nat := [0, 1, 4, 6, 9, 10, 13, 14, 15]
def z_c_X5_isThere : List zI := [(1, 1, 0, 0, 0), (18, 8, 2, 0, 0), (1, 1, 0, 0, 0), (2, 0, 0, 0, 0), (6, 5, 0, 42, 198), (19, 8, 3, 0, 0), (0, 0, 1, 0, 0), (17, 9, 0, 0, 0), (0, 0, 0, 0, 0), (26, 0, 0, 0, 0)]
def z_p_X5_isThere : List Nat := [0, 1, 4, 5, 6, 9, 12, 13, 16, 17, 18]
def z_c_X5_tokenOf : List zI := [(2, 0, 0, 0, 0), (6, 5, 1, 11, 199), (1, 1, 0, 0, 0), (8, 0, 0, 0, 0), (25, 0, 0, 0, 0)]
def z_p_X5_tokenOf : List Nat := [0, 1, 4, 5, 6, 7]
def z_c_X5_state : List zI := [(2, 0, 0, 0, 0), (6, 5, 6, 27, 204), (1, 1, 0, 0, 0), (8, 0, 0, 0, 0), (25, 0, 0, 0, 0)]
def z_p_X5_state : List Nat := [0, 1, 4, 5, 6, 7]
def z_c_X5_end : List zI := [(2, 0, 0, 0, 0), (6, 5, 4, 21, 202), (1, 1, 0, 0, 0), (8, 0, 0, 0, 0), (25, 0, 0, 0, 0)]
def z_p_X5_end : List Nat := [0, 1, 4, 5, 6, 7]
def z_c_X5_credentialsIn : List zI := [(2, 0, 0, 0, 0), (6, 5, 9, 36, 207), (1, 1, 0, 0, 0), (8, 0, 0, 0, 0), (25, 0, 0, 0, 0)]
def z_p_X5_credentialsIn : List Nat := [0, 1, 4, 5, 6, 7]
def z_c_X5_change : List zI := [(2, 0, 0, 0, 0), (6, 5, 8, 33, 206), (1, 1, 0, 0, 0), (8, 0, 0, 0, 0), (3, 3, 0, 0, 0), (2, 0, 0, 0, 0), (6, 5, 8, 33, 206), (1, 1, 0, 0, 0), (1, 2, 0, 0, 0), (10, 0, 0, 0, 0), (1, 3, 0, 0, 0), (25, 0, 0, 0, 0)]
def z_p_X5_change : List Nat := [0, 1, 4, 5, 6, 7, 8, 11, 12, 13, 14, 15, 16]
def z_c_X5_makeCredential : List zI := [(2, 0, 0, 0, 0), (6, 5, 8, 33, 206), (1, 1, 0, 0, 0), (8, 0, 0, 0, 0), (0, 0, 1, 0, 0), (19, 8, 1, 0, 0), (0, 0, 0, 0, 0), (26, 0, 0, 0, 0), (2, 0, 0, 0, 0), (6, 5, 9, 36, 207), (1, 1, 0, 0, 0), (15, 0, 0, 0, 0), (8, 0, 0, 0, 0), (0, 0, 1, 0, 0), (13, 0, 0, 0, 0), (10, 0, 0, 0, 0), (2, 0, 0, 0, 0), (6, 5, 8, 33, 206), (1, 1, 0, 0, 0), (8, 0, 0, 0, 0), (0, 0, 2, 0, 0), (19, 32, 1, 0, 0), (2, 0, 0, 0, 0), (6, 5, 10, 39, 208), (1, 1, 0, 0, 0), (15, 0, 0, 0, 0), (8, 0, 0, 0, 0), (0, 0, 1, 0, 0), (13, 0, 0, 0, 0), (10, 0, 0, 0, 0), (0, 0, 0, 0, 0), (26, 0, 0, 0, 0), (0, 0, 1, 0, 0), (26, 0, 0, 0, 0)]
def z_p_X5_makeCredential : List Nat := [0, 1, 4, 5, 6, 7, 10, 11, 12, 13, 16, 17, 18, 19, 20, 21, 22, 23, 26, 27, 28, 29, 32, 33, 36, 37, 38, 39, 40, 41, 42, 43, 44, 45, 46]
def z_c_X5_add : List zI := [(2, 0, 0, 0, 0), (6, 5, 0, 42, 198), (3, 4, 0, 0, 0), (2, 0, 0, 0, 0), (6, 5, 1, 11, 199), (1, 4, 0, 0, 0), (1, 1, 0, 0, 0), (10, 0, 0, 0, 0), (2, 0, 0, 0, 0), (6, 5, 2, 15, 200), (1, 4, 0, 0, 0), (1, 2, 0, 0, 0), (10, 0, 0, 0, 0), (2, 0, 0, 0, 0), (6, 5, 3, 18, 201), (1, 4, 0, 0, 0), (1, 3, 0, 0, 0), (10, 0, 0, 0, 0), (2, 0, 0, 0, 0), (6, 5, 6, 27, 204), (1, 4, 0, 0, 0), (0, 0, 0, 0, 0), (10, 0, 0, 0, 0), (2, 0, 0, 0, 0), (6, 5, 7, 30, 205), (1, 4, 0, 0, 0), (0, 0, 0, 0, 0), (10, 0, 0, 0, 0), (2, 0, 0, 0, 0), (14, 0, 0, 0, 0), (6, 5, 0, 42, 198), (0, 0, 1, 0, 0), (13, 0, 0, 0, 0), (7, 5, 0, 42, 198), (1, 4, 0, 0, 0), (25, 0, 0, 0, 0)]
def z_p_X5_add : List Nat := [0, 1, 4, 6, 7, 10, 12, 13, 14, 15, 18, 20, 21, 22, 23, 26, 28, 29, 30, 31, 34, 36, 37, 38, 39, 42, 44, 45, 46, 47, 48, 51, 52, 53, 56, 58, 59]
def z_c_X5_bound : List zI := [(2, 0, 0, 0, 0), (6, 5, 4, 21, 202), (1, 1, 0, 0, 0), (1, 2, 0, 0, 0), (10, 0, 0, 0, 0), (2, 0, 0, 0, 0), (6, 5, 5, 24, 203), (1, 1, 0, 0, 0), (1, 3, 0, 0, 0), (10, 0, 0, 0, 0), (27, 0, 0, 0, 0)]
def z_p_X5_bound : List Nat := [0, 1, 4, 5, 6, 7, 8, 11, 12, 13, 14, 15]
def z_c_X5_prolong : List zI := [(2, 0, 0, 0, 0), (6, 5, 4, 21, 202), (1, 1, 0, 0, 0), (1, 2, 0, 0, 0), (2, 0, 0, 0, 0), (6, 5, 5, 24, 203), (1, 1, 0, 0, 0), (8, 0, 0, 0, 0), (1, 3, 0, 0, 0), (24, 0, 0, 46, 1133), (24, 0, 0, 46, 1133), (10, 0, 0, 0, 0), (2, 0, 0, 0, 0), (6, 5, 4, 21, 202), (1, 1, 0, 0, 0), (8, 0, 0, 0, 0), (25, 0, 0, 0, 0)]
def z_p_X5_prolong : List Nat := [0, 1, 4, 5, 6, 7, 10, 11, 12, 13, 16, 19, 20, 21, 24, 25, 26, 27]
def z_c_X5_endThoseAt : List zI := [(0, 0, 0, 0, 0), (3, 4, 0, 0, 0), (0, 0, 0, 0, 0), (3, 5, 0, 0, 0), (1, 5, 0, 0, 0), (2, 0, 0, 0, 0), (6, 5, 0, 42, 198), (19, 32, 3, 0, 0), (2, 0, 0, 0, 0), (6, 5, 6, 27, 204), (1, 5, 0, 0, 0), (8, 0, 0, 0, 0), (18, 30, 1, 0, 0), (2, 0, 0, 0, 0), (6, 5, 2, 15, 200), (1, 5, 0, 0, 0), (8, 0, 0, 0, 0), (1, 1, 0, 0, 0), (19, 30, 2, 0, 0), (2, 0, 0, 0, 0), (6, 5, 2, 15, 200), (1, 5, 0, 0, 0), (8, 0, 0, 0, 0), (1, 2, 0, 0, 0), (19, 30, 3, 0, 0), (2, 0, 0, 0, 0), (1, 5, 0, 0, 0), (1, 3, 0, 0, 0), (21, 59, 5, 52, 673), (5, 4, 1, 0, 0), (5, 5, 1, 0, 0), (17, 4, 0, 0, 0), (1, 4, 0, 0, 0), (25, 0, 0, 0, 0)]
def z_p_X5_endThoseAt : List Nat := [0, 1, 3, 4, 6, 8, 9, 12, 15, 16, 19, 21, 22, 25, 26, 29, 31, 32, 33, 36, 37, 40, 42, 43, 44, 47, 48, 50, 51, 54, 57, 60, 63, 65, 66]
def z_c_X5_endThoseOfDead : List zI := [(0, 0, 0, 0, 0), (3, 3, 0, 0, 0), (1, 3, 0, 0, 0), (2, 0, 0, 0, 0), (6, 5, 0, 42, 198), (19, 24, 3, 0, 0), (2, 0, 0, 0, 0), (6, 5, 6, 27, 204), (1, 3, 0, 0, 0), (8, 0, 0, 0, 0), (18, 22, 1, 0, 0), (2, 1, 0, 0, 0), (2, 0, 0, 0, 0), (6, 5, 1, 11, 199), (1, 3, 0, 0, 0), (8, 0, 0, 0, 0), (21, 116, 10, 56, 895), (18, 22, 1, 0, 0), (2, 0, 0, 0, 0), (1, 3, 0, 0, 0), (1, 2, 0, 0, 0), (21, 59, 5, 52, 673), (5, 3, 1, 0, 0), (17, 2, 0, 0, 0), (27, 0, 0, 0, 0)]
def z_p_X5_endThoseOfDead : List Nat := [0, 1, 2, 3, 4, 7, 10, 11, 14, 15, 16, 19, 20, 21, 24, 25, 26, 29, 32, 33, 34, 35, 38, 41, 44, 45]
def z_c_X5_endThoseDue : List zI := [(0, 0, 0, 0, 0), (3, 2, 0, 0, 0), (1, 2, 0, 0, 0), (2, 0, 0, 0, 0), (6, 5, 0, 42, 198), (19, 23, 3, 0, 0), (2, 0, 0, 0, 0), (6, 5, 6, 27, 204), (1, 2, 0, 0, 0), (8, 0, 0, 0, 0), (18, 21, 1, 0, 0), (2, 0, 0, 0, 0), (6, 5, 4, 21, 202), (1, 2, 0, 0, 0), (8, 0, 0, 0, 0), (1, 1, 0, 0, 0), (19, 21, 1, 0, 0), (2, 0, 0, 0, 0), (1, 2, 0, 0, 0), (1, 1, 0, 0, 0), (21, 59, 5, 52, 673), (5, 2, 1, 0, 0), (17, 2, 0, 0, 0), (27, 0, 0, 0, 0)]
def z_p_X5_endThoseDue : List Nat := [0, 1, 2, 3, 4, 7, 10, 11, 14, 15, 16, 19, 20, 23, 24, 25, 26, 29, 30, 31, 32, 35, 38, 41, 42]
def z_c_X5_tryAgain : List zI := [(0, 0, 0, 0, 0), (3, 2, 0, 0, 0), (1, 2, 0, 0, 0), (2, 0, 0, 0, 0), (6, 5, 0, 42, 198), (19, 23, 3, 0, 0), (2, 0, 0, 0, 0), (6, 5, 6, 27, 204), (1, 2, 0, 0, 0), (8, 0, 0, 0, 0), (0, 0, 1, 0, 0), (19, 21, 1, 0, 0), (2, 0, 0, 0, 0), (6, 5, 4, 21, 202), (1, 2, 0, 0, 0), (8, 0, 0, 0, 0), (1, 1, 0, 0, 0), (19, 21, 3, 0, 0), (2, 0, 0, 0, 0), (1, 2, 0, 0, 0), (21, 60, 5, 62, 677), (5, 2, 1, 0, 0), (17, 2, 0, 0, 0), (27, 0, 0, 0, 0)]
def z_p_X5_tryAgain : List Nat := [0, 1, 2, 3, 4, 7, 10, 11, 14, 15, 16, 17, 20, 21, 24, 25, 26, 27, 30, 31, 32, 35, 38, 41, 42]
def z_c_X5_rollBack : List zI := [(0, 0, 0, 0, 0), (3, 1, 0, 0, 0), (1, 1, 0, 0, 0), (0, 0, 3, 0, 0), (19, 28, 3, 0, 0), (2, 0, 0, 0, 0), (6, 5, 8, 33, 206), (1, 1, 0, 0, 0), (8, 0, 0, 0, 0), (18, 26, 1, 0, 0), (2, 0, 0, 0, 0), (6, 5, 9, 36, 207), (1, 1, 0, 0, 0), (15, 0, 0, 0, 0), (8, 0, 0, 0, 0), (2, 0, 0, 0, 0), (6, 5, 10, 39, 208), (1, 1, 0, 0, 0), (8, 0, 0, 0, 0), (13, 1, 0, 0, 0), (10, 0, 0, 0, 0), (2, 0, 0, 0, 0), (6, 5, 10, 39, 208), (1, 1, 0, 0, 0), (0, 0, 0, 0, 0), (10, 0, 0, 0, 0), (5, 1, 1, 0, 0), (17, 2, 0, 0, 0), (27, 0, 0, 0, 0)]
def z_p_X5_rollBack : List Nat := [0, 1, 2, 3, 4, 7, 8, 11, 12, 13, 16, 17, 20, 21, 22, 23, 24, 27, 28, 29, 30, 31, 32, 35, 36, 37, 38, 41, 44, 45]
def z_c_X5_countAnew : List zI := [(2, 0, 0, 0, 0), (6, 5, 10, 39, 208), (1, 1, 0, 0, 0), (8, 0, 0, 0, 0), (3, 2, 0, 0, 0), (0, 0, 0, 0, 0), (3, 3, 0, 0, 0), (1, 3, 0, 0, 0), (2, 0, 0, 0, 0), (6, 5, 0, 42, 198), (19, 26, 3, 0, 0), (2, 0, 0, 0, 0), (6, 5, 3, 18, 201), (1, 3, 0, 0, 0), (8, 0, 0, 0, 0), (1, 1, 0, 0, 0), (19, 24, 1, 0, 0), (2, 0, 0, 0, 0), (6, 5, 6, 27, 204), (1, 3, 0, 0, 0), (8, 0, 0, 0, 0), (0, 0, 2, 0, 0), (19, 24, 0, 0, 0), (5, 2, 1, 0, 0), (5, 3, 1, 0, 0), (17, 7, 0, 0, 0), (1, 2, 0, 0, 0), (25, 0, 0, 0, 0)]
def z_p_X5_countAnew : List Nat := [0, 1, 4, 5, 6, 7, 8, 9, 10, 11, 14, 17, 18, 21, 22, 23, 24, 27, 28, 31, 32, 33, 34, 37, 40, 43, 46, 47, 48]
def z_c_X5_endNow : List zI := [(2, 0, 0, 0, 0), (6, 5, 4, 21, 202), (1, 1, 0, 0, 0), (1, 2, 0, 0, 0), (10, 0, 0, 0, 0), (2, 0, 0, 0, 0), (1, 1, 0, 0, 0), (21, 60, 5, 62, 677), (27, 0, 0, 0, 0)]
def z_p_X5_endNow : List Nat := [0, 1, 4, 5, 6, 7, 8, 9, 12, 13]
def z_c_X5_tryToRemove : List zI := [(2, 0, 0, 0, 0), (6, 5, 3, 18, 201), (1, 1, 0, 0, 0), (8, 0, 0, 0, 0), (3, 2, 0, 0, 0), (2, 0, 0, 0, 0), (6, 5, 7, 30, 205), (1, 1, 0, 0, 0), (15, 0, 0, 0, 0), (8, 0, 0, 0, 0), (0, 0, 1, 0, 0), (13, 0, 0, 0, 0), (10, 0, 0, 0, 0), (2, 0, 0, 0, 0), (6, 5, 8, 33, 206), (1, 2, 0, 0, 0), (8, 0, 0, 0, 0), (0, 0, 1, 0, 0), (19, 33, 0, 0, 0), (2, 0, 0, 0, 0), (6, 5, 9, 36, 207), (1, 2, 0, 0, 0), (15, 0, 0, 0, 0), (8, 0, 0, 0, 0), (0, 0, 1, 0, 0), (13, 1, 0, 0, 0), (10, 0, 0, 0, 0), (2, 0, 0, 0, 0), (6, 5, 6, 27, 204), (1, 1, 0, 0, 0), (0, 0, 2, 0, 0), (10, 0, 0, 0, 0), (17, 46, 0, 0, 0), (2, 0, 0, 0, 0), (6, 5, 6, 27, 204), (1, 1, 0, 0, 0), (2, 0, 0, 0, 0), (6, 5, 7, 30, 205), (1, 1, 0, 0, 0), (8, 0, 0, 0, 0), (0, 0, 3, 0, 0), (19, 44, 3, 0, 0), (0, 0, 1, 0, 0), (17, 45, 0, 0, 0), (0, 0, 3, 0, 0), (10, 0, 0, 0, 0), (27, 0, 0, 0, 0)]
def z_p_X5_tryToRemove : List Nat := [0, 1, 4, 5, 6, 7, 8, 11, 12, 13, 14, 15, 16, 17, 18, 21, 22, 23, 24, 27, 28, 31, 32, 33, 34, 35, 36, 37, 38, 41, 42, 43, 44, 47, 48, 51, 52, 53, 56, 57, 58, 59, 62, 63, 66, 67, 68, 69]
def z_c_X6_hasRoom : List zI := [(2, 0, 0, 0, 0), (6, 6, 0, 9, 117), (1, 1, 0, 0, 0), (8, 0, 0, 0, 0), (0, 0, 5, 0, 0), (19, 8, 3, 0, 0), (0, 0, 1, 0, 0), (17, 9, 0, 0, 0), (0, 0, 0, 0, 0), (26, 0, 0, 0, 0)]
def z_p_X6_hasRoom : List Nat := [0, 1, 4, 5, 6, 7, 10, 11, 14, 15, 16]
def z_c_X6_addRule : List zI := [(1, 1, 0, 0, 0), (0, 0, 5, 0, 0), (13, 2, 0, 0, 0), (2, 0, 0, 0, 0), (6, 6, 0, 9, 117), (1, 1, 0, 0, 0), (8, 0, 0, 0, 0), (13, 0, 0, 0, 0), (3, 7, 0, 0, 0), (2, 0, 0, 0, 0), (6, 6, 1, 15, 118), (1, 7, 0, 0, 0), (0, 0, 3, 0, 0), (13, 2, 0, 0, 0), (1, 2, 0, 0, 0), (10, 0, 0, 0, 0), (2, 0, 0, 0, 0), (6, 6, 1, 15, 118), (1, 7, 0, 0, 0), (0, 0, 3, 0, 0), (13, 2, 0, 0, 0), (0, 0, 1, 0, 0), (13, 0, 0, 0, 0), (1, 3, 0, 0, 0), (10, 0, 0, 0, 0), (2, 0, 0, 0, 0), (6, 6, 1, 15, 118), (1, 7, 0, 0, 0), (0, 0, 3, 0, 0), (13, 2, 0, 0, 0), (0, 0, 2, 0, 0), (13, 0, 0, 0, 0), (1, 4, 0, 0, 0), (10, 0, 0, 0, 0), (2, 0, 0, 0, 0), (6, 6, 2, 18, 119), (1, 7, 0, 0, 0), (1, 5, 0, 0, 0), (10, 0, 0, 0, 0), (2, 0, 0, 0, 0), (6, 6, 3, 21, 120), (1, 7, 0, 0, 0), (1, 6, 0, 0, 0), (10, 0, 0, 0, 0), (2, 0, 0, 0, 0), (6, 6, 0, 9, 117), (1, 1, 0, 0, 0), (15, 0, 0, 0, 0), (8, 0, 0, 0, 0), (0, 0, 1, 0, 0), (13, 0, 0, 0, 0), (10, 0, 0, 0, 0), (2, 0, 0, 0, 0), (6, 6, 0, 9, 117), (1, 1, 0, 0, 0), (8, 0, 0, 0, 0), (25, 0, 0, 0, 0)]
def z_p_X6_addRule : List Nat := [0, 1, 2, 3, 4, 7, 8, 9, 10, 12, 13, 16, 18, 19, 20, 21, 22, 23, 26, 28, 29, 30, 31, 32, 33, 34, 35, 38, 40, 41, 42, 43, 44, 46, 47, 48, 51, 53, 55, 56, 57, 60, 62, 64, 65, 66, 69, 70, 71, 72, 73, 74, 75, 76, 79, 80, 81, 82]
def z_c_X6_at : List zI := [(1, 1, 0, 0, 0), (2, 0, 0, 0, 0), (1, 2, 0, 0, 0), (21, 78, 6, 42, 810), (13, 6, 0, 0, 0), (3, 4, 0, 0, 0), (0, 0, 63, 0, 0), (3, 5, 0, 0, 0), (0, 0, 0, 0, 0), (3, 6, 0, 0, 0), (0, 0, 0, 0, 0), (3, 7, 0, 0, 0), (0, 0, 0, 0, 0), (3, 8, 0, 0, 0), (0, 0, 0, 0, 0), (3, 9, 0, 0, 0), (1, 9, 0, 0, 0), (2, 0, 0, 0, 0), (6, 6, 2, 18, 119), (12, 0, 0, 0, 0), (19, 75, 3, 0, 0), (2, 0, 0, 0, 0), (1, 9, 0, 0, 0), (1, 4, 0, 0, 0), (21, 65, 6, 46, 818), (18, 32, 0, 0, 0), (2, 0, 0, 0, 0), (1, 9, 0, 0, 0), (1, 2, 0, 0, 0), (1, 3, 0, 0, 0), (21, 66, 6, 50, 822), (17, 33, 0, 0, 0), (0, 0, 64, 0, 0), (3, 10, 0, 0, 0), (1, 10, 0, 0, 0), (1, 5, 0, 0, 0), (19, 45, 3, 0, 0), (1, 10, 0, 0, 0), (3, 5, 0, 0, 0), (0, 0, 0, 0, 0), (3, 6, 0, 0, 0), (0, 0, 0, 0, 0), (3, 7, 0, 0, 0), (0, 0, 0, 0, 0), (3, 8, 0, 0, 0), (1, 10, 0, 0, 0), (1, 5, 0, 0, 0), (19, 73, 1, 0, 0), (1, 6, 0, 0, 0), (2, 0, 0, 0, 0), (6, 6, 2, 18, 119), (1, 9, 0, 0, 0), (8, 0, 0, 0, 0), (13, 6, 0, 0, 0), (3, 6, 0, 0, 0), (1, 7, 0, 0, 0), (2, 0, 0, 0, 0), (6, 6, 3, 21, 120), (1, 9, 0, 0, 0), (8, 0, 0, 0, 0), (23, 0, 0, 54, 833), (3, 7, 0, 0, 0), (1, 8, 0, 0, 0), (2, 0, 0, 0, 0), (6, 6, 2, 18, 119), (1, 9, 0, 0, 0), (8, 0, 0, 0, 0), (18, 70, 1, 0, 0), (0, 0, 1, 0, 0), (17, 71, 0, 0, 0), (0, 0, 0, 0, 0), (13, 6, 0, 0, 0), (3, 8, 0, 0, 0), (5, 9, 1, 0, 0), (17, 16, 0, 0, 0), (1, 8, 0, 0, 0), (18, 79, 0, 0, 0), (0, 0, 0, 0, 0), (17, 84, 0, 0, 0), (1, 6, 0, 0, 0), (0, 0, 16, 0, 0), (1, 7, 0, 0, 0), (13, 2, 0, 0, 0), (13, 0, 0, 0, 0), (25, 0, 0, 0, 0)]
def z_p_X6_at : List Nat := [0, 1, 2, 3, 6, 7, 9, 11, 13, 14, 16, 17, 19, 20, 22, 23, 25, 27, 28, 31, 32, 35, 36, 38, 40, 43, 46, 47, 49, 50, 51, 54, 57, 59, 61, 63, 65, 68, 70, 72, 73, 75, 76, 78, 79, 81, 83, 85, 88, 90, 91, 94, 96, 97, 98, 100, 102, 103, 106, 108, 109, 112, 114, 116, 117, 120, 122, 123, 126, 127, 130, 131, 132, 134, 137, 140, 142, 145, 146, 149, 151, 153, 155, 156, 157, 158]
def z_c_X6_isInForce : List zI := [(1, 1, 0, 0, 0), (0, 0, 5, 0, 0), (13, 3, 0, 0, 0), (3, 3, 0, 0, 0), (1, 2, 0, 0, 0), (1, 3, 0, 0, 0), (13, 9, 0, 0, 0), (0, 0, 1, 0, 0), (13, 5, 0, 0, 0), (0, 0, 1, 0, 0), (19, 21, 1, 0, 0), (1, 1, 0, 0, 0), (0, 0, 5, 0, 0), (13, 4, 0, 0, 0), (2, 0, 0, 0, 0), (6, 6, 0, 9, 117), (1, 3, 0, 0, 0), (8, 0, 0, 0, 0), (19, 21, 3, 0, 0), (0, 0, 1, 0, 0), (17, 22, 0, 0, 0), (0, 0, 0, 0, 0), (26, 0, 0, 0, 0)]
def z_p_X6_isInForce : List Nat := [0, 1, 2, 3, 4, 5, 6, 7, 8, 9, 10, 13, 14, 15, 16, 17, 20, 21, 22, 25, 26, 29, 30, 31]
def z_c_X6_vaguenessAt : List zI := [(0, 0, 0, 0, 0), (3, 4, 0, 0, 0), (0, 0, 0, 0, 0), (3, 5, 0, 0, 0), (0, 0, 0, 0, 0), (3, 6, 0, 0, 0), (1, 6, 0, 0, 0), (0, 0, 3, 0, 0), (19, 49, 3, 0, 0), (1, 5, 0, 0, 0), (18, 13, 0, 0, 0), (0, 0, 8, 0, 0), (17, 21, 0, 0, 0), (2, 0, 0, 0, 0), (6, 6, 1, 15, 118), (1, 1, 0, 0, 0), (0, 0, 3, 0, 0), (13, 2, 0, 0, 0), (1, 6, 0, 0, 0), (13, 0, 0, 0, 0), (8, 0, 0, 0, 0), (3, 7, 0, 0, 0), (1, 7, 0, 0, 0), (1, 2, 0, 0, 0), (1, 3, 0, 0, 0), (1, 6, 0, 0, 0), (22, 68, 0, 60, 826), (22, 67, 0, 63, 830), (3, 8, 0, 0, 0), (1, 8, 0, 0, 0), (0, 0, 4, 0, 0), (19, 34, 1, 0, 0), (0, 0, 64, 0, 0), (25, 0, 0, 0, 0), (1, 4, 0, 0, 0), (0, 0, 4, 0, 0), (13, 2, 0, 0, 0), (1, 8, 0, 0, 0), (13, 0, 0, 0, 0), (3, 4, 0, 0, 0), (1, 7, 0, 0, 0), (0, 0, 8, 0, 0), (19, 45, 1, 0, 0), (0, 0, 1, 0, 0), (17, 46, 0, 0, 0), (0, 0, 0, 0, 0), (3, 5, 0, 0, 0), (5, 6, 1, 0, 0), (17, 6, 0, 0, 0), (1, 4, 0, 0, 0), (25, 0, 0, 0, 0)]
def z_p_X6_vaguenessAt : List Nat := [0, 1, 3, 4, 6, 7, 9, 11, 12, 15, 17, 20, 22, 25, 26, 29, 30, 31, 32, 34, 35, 36, 38, 40, 41, 42, 44, 47, 50, 52, 54, 55, 58, 60, 61, 63, 64, 65, 67, 68, 70, 72, 74, 77, 78, 81, 82, 84, 87, 90, 92, 93]
def z_c_X6_digitOf : List zI := [(1, 0, 0, 0, 0), (0, 0, 8, 0, 0), (19, 5, 1, 0, 0), (0, 0, 3, 0, 0), (25, 0, 0, 0, 0), (1, 0, 0, 0, 0), (0, 0, 6, 0, 0), (19, 10, 1, 0, 0), (0, 0, 2, 0, 0), (25, 0, 0, 0, 0), (1, 0, 0, 0, 0), (0, 0, 7, 0, 0), (19, 25, 1, 0, 0), (1, 1, 0, 0, 0), (0, 0, (-1), 0, 0), (19, 23, 0, 0, 0), (1, 1, 0, 0, 0), (0, 0, 6, 0, 0), (13, 4, 0, 0, 0), (1, 2, 0, 0, 0), (19, 23, 1, 0, 0), (0, 0, 1, 0, 0), (17, 24, 0, 0, 0), (0, 0, 4, 0, 0), (25, 0, 0, 0, 0), (1, 0, 0, 0, 0), (1, 2, 0, 0, 0), (19, 30, 1, 0, 0), (0, 0, 0, 0, 0), (17, 31, 0, 0, 0), (0, 0, 4, 0, 0), (25, 0, 0, 0, 0)]
def z_p_X6_digitOf : List Nat := [0, 1, 3, 6, 7, 8, 9, 11, 14, 15, 16, 17, 19, 22, 23, 24, 27, 28, 30, 31, 32, 35, 36, 39, 40, 41, 42, 43, 46, 47, 50, 51, 52]
def z_c_X6_segmentOf : List zI := [(1, 1, 0, 0, 0), (18, 5, 1, 0, 0), (1, 0, 0, 0, 0), (34, 195, 0, 66, 0), (25, 0, 0, 0, 0), (1, 1, 0, 0, 0), (0, 0, 1, 0, 0), (19, 14, 1, 0, 0), (1, 0, 0, 0, 0), (0, 0, 6, 0, 0), (13, 3, 0, 0, 0), (0, 0, 6, 0, 0), (13, 4, 0, 0, 0), (17, 17, 0, 0, 0), (1, 0, 0, 0, 0), (0, 0, 6, 0, 0), (13, 4, 0, 0, 0), (25, 0, 0, 0, 0)]
def z_p_X6_segmentOf : List Nat := [0, 1, 4, 5, 8, 9, 10, 11, 14, 15, 17, 18, 20, 21, 24, 25, 27, 28, 29]
def z_c_X6_countOf : List zI := [(1, 0, 0, 0, 0), (18, 4, 1, 0, 0), (0, 0, 3, 0, 0), (25, 0, 0, 0, 0), (1, 0, 0, 0, 0), (0, 0, 1, 0, 0), (19, 9, 1, 0, 0), (0, 0, 8, 0, 0), (17, 10, 0, 0, 0), (0, 0, 4, 0, 0), (25, 0, 0, 0, 0)]
def z_p_X6_countOf : List Nat := [0, 1, 4, 5, 6, 7, 8, 11, 13, 16, 17, 18]
def z_c_X6_givePolicies : List zI := [(1, 1, 0, 0, 0), (18, 8, 1, 0, 0), (2, 0, 0, 0, 0), (6, 6, 5, 27, 122), (1, 2, 0, 0, 0), (1, 3, 0, 0, 0), (22, 80, 0, 69, 709), (25, 0, 0, 0, 0), (1, 1, 0, 0, 0), (0, 0, 1, 0, 0), (19, 14, 1, 0, 0), (2, 0, 0, 0, 0), (6, 6, 6, 30, 123), (17, 16, 0, 0, 0), (2, 0, 0, 0, 0), (6, 6, 7, 33, 124), (1, 2, 0, 0, 0), (1, 3, 0, 0, 0), (22, 80, 0, 69, 709), (25, 0, 0, 0, 0)]
def z_p_X6_givePolicies : List Nat := [0, 1, 4, 5, 8, 9, 10, 13, 14, 15, 16, 19, 20, 23, 26, 27, 30, 31, 32, 35, 36]
def z_c_X6_lead : List zI := [(2, 0, 0, 0, 0), (6, 6, 4, 24, 121), (1, 1, 0, 0, 0), (0, 0, 6, 0, 0), (13, 2, 0, 0, 0), (1, 2, 0, 0, 0), (13, 0, 0, 0, 0), (1, 3, 0, 0, 0), (22, 80, 0, 69, 709), (25, 0, 0, 0, 0)]
def z_p_X6_lead : List Nat := [0, 1, 4, 5, 7, 8, 9, 10, 11, 14, 15]
def z_c_X6_personOf : List zI := [(2, 0, 0, 0, 0), (6, 6, 4, 24, 121), (1, 1, 0, 0, 0), (0, 0, 6, 0, 0), (13, 2, 0, 0, 0), (1, 2, 0, 0, 0), (13, 0, 0, 0, 0), (8, 0, 0, 0, 0), (25, 0, 0, 0, 0)]
def z_p_X6_personOf : List Nat := [0, 1, 4, 5, 7, 8, 9, 10, 11, 12]
def z_c_X6_policiesOfMethod : List zI := [(2, 0, 0, 0, 0), (6, 6, 5, 27, 122), (1, 1, 0, 0, 0), (8, 0, 0, 0, 0), (25, 0, 0, 0, 0)]
def z_p_X6_policiesOfMethod : List Nat := [0, 1, 4, 5, 6, 7]
def z_c_X6_leadElsewhere : List zI := [(0, 0, 0, 0, 0), (3, 3, 0, 0, 0), (0, 0, 0, 0, 0), (3, 4, 0, 0, 0), (1, 4, 0, 0, 0), (2, 0, 0, 0, 0), (6, 6, 4, 24, 121), (12, 0, 0, 0, 0), (19, 23, 3, 0, 0), (2, 0, 0, 0, 0), (6, 6, 4, 24, 121), (1, 4, 0, 0, 0), (8, 0, 0, 0, 0), (1, 1, 0, 0, 0), (19, 21, 1, 0, 0), (2, 0, 0, 0, 0), (6, 6, 4, 24, 121), (1, 4, 0, 0, 0), (1, 2, 0, 0, 0), (10, 0, 0, 0, 0), (5, 3, 1, 0, 0), (5, 4, 1, 0, 0), (17, 4, 0, 0, 0), (1, 3, 0, 0, 0), (25, 0, 0, 0, 0)]
def z_p_X6_leadElsewhere : List Nat := [0, 1, 2, 3, 5, 7, 8, 11, 12, 15, 16, 19, 21, 22, 23, 26, 27, 30, 32, 33, 34, 37, 40, 43, 44, 45]
def z_c_X6_replaceMember : List zI := [(0, 0, 0, 0, 0), (3, 3, 0, 0, 0), (1, 3, 0, 0, 0), (0, 0, 4, 0, 0), (19, 19, 3, 0, 0), (2, 0, 0, 0, 0), (1, 3, 0, 0, 0), (1, 1, 0, 0, 0), (0, 0, 0, 0, 0), (21, 76, 6, 73, 1401), (18, 17, 0, 0, 0), (2, 0, 0, 0, 0), (1, 3, 0, 0, 0), (1, 2, 0, 0, 0), (0, 0, 1, 0, 0), (21, 76, 6, 73, 1401), (16, 0, 0, 0, 0), (5, 3, 1, 0, 0), (17, 2, 0, 0, 0), (27, 0, 0, 0, 0)]
def z_p_X6_replaceMember : List Nat := [0, 1, 2, 3, 4, 7, 8, 9, 10, 11, 14, 17, 18, 19, 20, 21, 24, 25, 28, 31, 32]
def z_c_X6_setPersonIn : List zI := [(2, 0, 0, 0, 0), (6, 6, 8, 36, 125), (1, 1, 0, 0, 0), (1, 2, 0, 0, 0), (1, 3, 0, 0, 0), (22, 81, 0, 77, 1382), (26, 0, 0, 0, 0)]
def z_p_X6_setPersonIn : List Nat := [0, 1, 4, 5, 6, 7, 10, 11]
def z_c_X6_setGroupIn : List zI := [(2, 0, 0, 0, 0), (6, 6, 9, 39, 126), (1, 1, 0, 0, 0), (1, 2, 0, 0, 0), (1, 3, 0, 0, 0), (22, 81, 0, 77, 1382), (26, 0, 0, 0, 0)]
def z_p_X6_setGroupIn : List Nat := [0, 1, 4, 5, 6, 7, 10, 11]
def z_c_X6_policiesOfPerson : List zI := [(1, 1, 0, 0, 0), (18, 5, 2, 0, 0), (1, 1, 0, 0, 0), (0, 0, 8, 0, 0), (19, 7, 2, 0, 0), (0, 0, 0, 0, 0), (25, 0, 0, 0, 0), (2, 0, 0, 0, 0), (6, 6, 6, 30, 123), (1, 1, 0, 0, 0), (8, 0, 0, 0, 0), (3, 2, 0, 0, 0), (2, 0, 0, 0, 0), (1, 1, 0, 0, 0), (21, 79, 6, 81, 814), (3, 3, 0, 0, 0), (0, 0, 0, 0, 0), (3, 4, 0, 0, 0), (1, 4, 0, 0, 0), (0, 0, 4, 0, 0), (19, 37, 3, 0, 0), (1, 3, 0, 0, 0), (1, 4, 0, 0, 0), (13, 9, 0, 0, 0), (0, 0, 1, 0, 0), (13, 5, 0, 0, 0), (0, 0, 1, 0, 0), (19, 35, 1, 0, 0), (1, 2, 0, 0, 0), (2, 0, 0, 0, 0), (6, 6, 7, 33, 124), (1, 4, 0, 0, 0), (8, 0, 0, 0, 0), (13, 6, 0, 0, 0), (3, 2, 0, 0, 0), (5, 4, 1, 0, 0), (17, 18, 0, 0, 0), (1, 2, 0, 0, 0), (25, 0, 0, 0, 0)]
def z_p_X6_policiesOfPerson : List Nat := [0, 1, 4, 5, 7, 10, 11, 12, 13, 16, 17, 18, 19, 20, 21, 24, 25, 26, 28, 30, 31, 34, 35, 37, 38, 39, 40, 41, 44, 45, 46, 49, 51, 52, 53, 54, 57, 60, 61, 62]
def z_c_X6_groupsOf : List zI := [(0, 0, 0, 0, 0), (3, 2, 0, 0, 0), (0, 0, 0, 0, 0), (3, 3, 0, 0, 0), (1, 3, 0, 0, 0), (0, 0, 4, 0, 0), (19, 39, 3, 0, 0), (0, 0, 0, 0, 0), (3, 4, 0, 0, 0), (1, 4, 0, 0, 0), (0, 0, 4, 0, 0), (19, 37, 3, 0, 0), (2, 0, 0, 0, 0), (6, 6, 8, 36, 125), (1, 4, 0, 0, 0), (8, 0, 0, 0, 0), (1, 1, 0, 0, 0), (13, 9, 0, 0, 0), (0, 0, 1, 0, 0), (13, 5, 0, 0, 0), (0, 0, 1, 0, 0), (19, 29, 0, 0, 0), (2, 0, 0, 0, 0), (6, 6, 9, 39, 126), (1, 4, 0, 0, 0), (8, 0, 0, 0, 0), (1, 2, 0, 0, 0), (13, 5, 0, 0, 0), (18, 35, 0, 0, 0), (1, 2, 0, 0, 0), (0, 0, 1, 0, 0), (1, 4, 0, 0, 0), (13, 8, 0, 0, 0), (13, 6, 0, 0, 0), (3, 2, 0, 0, 0), (5, 4, 1, 0, 0), (17, 9, 0, 0, 0), (5, 3, 1, 0, 0), (17, 4, 0, 0, 0), (1, 2, 0, 0, 0), (25, 0, 0, 0, 0)]
def z_p_X6_groupsOf : List Nat := [0, 1, 2, 3, 4, 5, 6, 9, 10, 12, 14, 15, 18, 19, 22, 24, 25, 26, 27, 28, 29, 30, 33, 34, 37, 39, 40, 41, 42, 45, 46, 47, 49, 50, 51, 52, 55, 58, 61, 64, 65, 66]
def z_c_X6_exchange : List zI := [(2, 0, 0, 0, 0), (1, 1, 0, 0, 0), (8, 0, 0, 0, 0), (3, 3, 0, 0, 0), (2, 0, 0, 0, 0), (1, 1, 0, 0, 0), (1, 2, 0, 0, 0), (10, 0, 0, 0, 0), (1, 3, 0, 0, 0), (25, 0, 0, 0, 0)]
def z_p_X6_exchange : List Nat := [0, 1, 2, 3, 4, 5, 6, 7, 8, 9, 10]
def z_c_X6_setBit : List zI := [(2, 0, 0, 0, 0), (1, 1, 0, 0, 0), (8, 0, 0, 0, 0), (1, 2, 0, 0, 0), (13, 9, 0, 0, 0), (0, 0, 1, 0, 0), (13, 5, 0, 0, 0), (0, 0, 1, 0, 0), (19, 11, 1, 0, 0), (0, 0, 1, 0, 0), (17, 12, 0, 0, 0), (0, 0, 0, 0, 0), (3, 4, 0, 0, 0), (2, 0, 0, 0, 0), (1, 1, 0, 0, 0), (1, 3, 0, 0, 0), (18, 25, 0, 0, 0), (2, 0, 0, 0, 0), (1, 1, 0, 0, 0), (8, 0, 0, 0, 0), (0, 0, 1, 0, 0), (1, 2, 0, 0, 0), (13, 8, 0, 0, 0), (13, 6, 0, 0, 0), (17, 34, 0, 0, 0), (2, 0, 0, 0, 0), (1, 1, 0, 0, 0), (8, 0, 0, 0, 0), (0, 0, 1, 0, 0), (1, 2, 0, 0, 0), (13, 8, 0, 0, 0), (0, 0, (-1), 0, 0), (13, 7, 0, 0, 0), (13, 5, 0, 0, 0), (10, 0, 0, 0, 0), (1, 4, 0, 0, 0), (26, 0, 0, 0, 0)]
def z_p_X6_setBit : List Nat := [0, 1, 2, 3, 4, 5, 6, 7, 8, 11, 12, 15, 16, 18, 19, 20, 21, 24, 25, 26, 27, 28, 29, 30, 31, 34, 35, 36, 37, 38, 39, 40, 41, 42, 43, 44, 46, 47]
def z_c_X7_isDealt : List zI := [(2, 0, 0, 0, 0), (6, 7, 1, 22, 36), (18, 5, 5, 0, 0), (0, 0, 1, 0, 0), (17, 6, 0, 0, 0), (0, 0, 0, 0, 0), (26, 0, 0, 0, 0)]
def z_p_X7_isDealt : List Nat := [0, 1, 4, 7, 8, 11, 12, 13]
def z_c_X7_isShare : List zI := [(1, 1, 0, 0, 0), (0, 0, 1, 0, 0), (19, 9, 2, 0, 0), (1, 1, 0, 0, 0), (2, 0, 0, 0, 0), (6, 7, 1, 22, 36), (19, 9, 4, 0, 0), (0, 0, 1, 0, 0), (17, 10, 0, 0, 0), (0, 0, 0, 0, 0), (26, 0, 0, 0, 0)]
def z_p_X7_isShare : List Nat := [0, 1, 2, 5, 6, 7, 10, 13, 14, 17, 18, 19]
def z_c_X7_valueOf : List zI := [(2, 0, 0, 0, 0), (6, 7, 3, 15, 38), (1, 1, 0, 0, 0), (8, 0, 0, 0, 0), (25, 0, 0, 0, 0)]
def z_p_X7_valueOf : List Nat := [0, 1, 4, 5, 6, 7]
def z_c_X7_isOpened : List zI := [(2, 0, 0, 0, 0), (6, 7, 6, 25, 41), (26, 0, 0, 0, 0)]
def z_p_X7_isOpened : List Nat := [0, 1, 4, 5]
def z_c_X7_dealShares : List zI := [(1, 1, 0, 0, 0), (3, 4, 0, 0, 0), (2, 0, 0, 0, 0), (6, 7, 0, 9, 35), (0, 0, (-1), 0, 0), (19, 14, 1, 0, 0), (1, 4, 0, 0, 0), (22, 92, 0, 32, 547), (3, 4, 0, 0, 0), (2, 0, 0, 0, 0), (1, 4, 0, 0, 0), (0, 0, 257, 0, 0), (13, 4, 0, 0, 0), (7, 7, 0, 9, 35), (2, 0, 0, 0, 0), (1, 2, 0, 0, 0), (7, 7, 1, 22, 36), (2, 0, 0, 0, 0), (1, 3, 0, 0, 0), (7, 7, 2, 36, 37), (0, 0, 1, 0, 0), (3, 5, 0, 0, 0), (1, 5, 0, 0, 0), (2, 0, 0, 0, 0), (6, 7, 1, 22, 36), (19, 34, 4, 0, 0), (2, 0, 0, 0, 0), (6, 7, 3, 15, 38), (1, 5, 0, 0, 0), (2, 0, 0, 0, 0), (6, 7, 0, 9, 35), (10, 0, 0, 0, 0), (5, 5, 1, 0, 0), (17, 22, 0, 0, 0), (0, 0, 1, 0, 0), (3, 5, 0, 0, 0), (1, 5, 0, 0, 0), (2, 0, 0, 0, 0), (6, 7, 2, 36, 37), (19, 51, 3, 0, 0), (1, 4, 0, 0, 0), (22, 92, 0, 32, 547), (3, 4, 0, 0, 0), (2, 0, 0, 0, 0), (1, 4, 0, 0, 0), (0, 0, 257, 0, 0), (13, 4, 0, 0, 0), (1, 5, 0, 0, 0), (21, 93, 7, 39, 551), (5, 5, 1, 0, 0), (17, 36, 0, 0, 0), (27, 0, 0, 0, 0)]
def z_p_X7_dealShares : List Nat := [0, 1, 3, 4, 7, 8, 11, 13, 16, 18, 19, 21, 24, 25, 28, 29, 30, 33, 34, 35, 38, 39, 41, 43, 44, 47, 50, 51, 54, 56, 57, 60, 61, 64, 67, 68, 70, 72, 73, 76, 79, 81, 84, 86, 87, 89, 92, 93, 95, 98, 101, 104, 105]
def z_c_X7_takeForOpening : List zI := [(2, 0, 0, 0, 0), (1, 1, 0, 0, 0), (1, 2, 0, 0, 0), (21, 94, 7, 43, 612), (2, 0, 0, 0, 0), (6, 7, 2, 36, 37), (19, 10, 3, 0, 0), (2, 0, 0, 0, 0), (6, 7, 5, 47, 40), (25, 0, 0, 0, 0), (2, 0, 0, 0, 0), (2, 0, 0, 0, 0), (21, 96, 7, 50, 616), (2, 0, 0, 0, 0), (6, 7, 0, 9, 35), (19, 18, 1, 0, 0), (0, 0, 1, 0, 0), (17, 19, 0, 0, 0), (0, 0, 0, 0, 0), (33, 7, 6, 25, 41), (2, 0, 0, 0, 0), (21, 95, 7, 54, 630), (0, 0, 0, 0, 0), (25, 0, 0, 0, 0)]
def z_p_X7_takeForOpening : List Nat := [0, 1, 2, 3, 6, 7, 10, 13, 14, 17, 18, 19, 20, 23, 24, 27, 30, 31, 34, 35, 38, 39, 42, 43, 44]
def z_c_X7_close : List zI := [(2, 0, 0, 0, 0), (6, 7, 6, 25, 41), (3, 1, 0, 0, 0), (2, 0, 0, 0, 0), (0, 0, 0, 0, 0), (33, 7, 6, 25, 41), (2, 0, 0, 0, 0), (0, 0, 0, 0, 0), (33, 7, 7, 29, 42), (2, 0, 0, 0, 0), (21, 95, 7, 54, 630), (1, 1, 0, 0, 0), (26, 0, 0, 0, 0)]
def z_p_X7_close : List Nat := [0, 1, 4, 5, 6, 7, 10, 11, 12, 15, 16, 19, 20, 21]
def z_c_X7_nextDraw : List zI := [(0, 0, 1103, 0, 0), (1, 0, 0, 0, 0), (13, 2, 0, 0, 0), (0, 0, 12345, 0, 0), (13, 0, 0, 0, 0), (0, 0, 65536, 70, 550), (13, 4, 0, 0, 0), (25, 0, 0, 0, 0)]
def z_p_X7_nextDraw : List Nat := [0, 3, 4, 5, 8, 9, 11, 12, 13]
def z_c_X7_addTerm : List zI := [(0, 0, 1, 0, 0), (3, 3, 0, 0, 0), (1, 3, 0, 0, 0), (2, 0, 0, 0, 0), (6, 7, 1, 22, 36), (19, 35, 4, 0, 0), (1, 1, 0, 0, 0), (3, 4, 0, 0, 0), (0, 0, 0, 0, 0), (3, 5, 0, 0, 0), (1, 5, 0, 0, 0), (1, 2, 0, 0, 0), (19, 21, 3, 0, 0), (1, 4, 0, 0, 0), (1, 3, 0, 0, 0), (13, 2, 0, 0, 0), (0, 0, 257, 0, 0), (13, 4, 0, 0, 0), (3, 4, 0, 0, 0), (5, 5, 1, 0, 0), (17, 10, 0, 0, 0), (2, 0, 0, 0, 0), (6, 7, 3, 15, 38), (1, 3, 0, 0, 0), (2, 0, 0, 0, 0), (6, 7, 3, 15, 38), (1, 3, 0, 0, 0), (8, 0, 0, 0, 0), (1, 4, 0, 0, 0), (13, 0, 0, 0, 0), (0, 0, 257, 0, 0), (13, 4, 0, 0, 0), (10, 0, 0, 0, 0), (5, 3, 1, 0, 0), (17, 2, 0, 0, 0), (27, 0, 0, 0, 0)]
def z_p_X7_addTerm : List Nat := [0, 1, 2, 3, 4, 7, 10, 11, 13, 14, 16, 18, 19, 22, 24, 25, 26, 29, 30, 32, 35, 38, 39, 42, 43, 44, 47, 48, 49, 51, 52, 55, 56, 57, 60, 63, 64]
def z_c_X7_gather : List zI := [(2, 0, 0, 0, 0), (6, 7, 4, 19, 39), (1, 1, 0, 0, 0), (8, 0, 0, 0, 0), (0, 0, (-1), 0, 0), (19, 12, 1, 0, 0), (2, 0, 0, 0, 0), (14, 0, 0, 0, 0), (6, 7, 5, 47, 40), (0, 0, 1, 0, 0), (13, 0, 0, 0, 0), (7, 7, 5, 47, 40), (2, 0, 0, 0, 0), (6, 7, 4, 19, 39), (1, 1, 0, 0, 0), (1, 2, 0, 0, 0), (10, 0, 0, 0, 0), (2, 0, 0, 0, 0), (6, 7, 5, 47, 40), (25, 0, 0, 0, 0)]
def z_p_X7_gather : List Nat := [0, 1, 4, 5, 6, 7, 10, 11, 12, 15, 16, 17, 20, 21, 24, 25, 26, 27, 28, 31, 32]
def z_c_X7_forgetGiven : List zI := [(0, 0, 0, 0, 0), (3, 1, 0, 0, 0), (1, 1, 0, 0, 0), (2, 0, 0, 0, 0), (6, 7, 4, 19, 39), (12, 0, 0, 0, 0), (19, 14, 3, 0, 0), (2, 0, 0, 0, 0), (6, 7, 4, 19, 39), (1, 1, 0, 0, 0), (0, 0, (-1), 0, 0), (10, 0, 0, 0, 0), (5, 1, 1, 0, 0), (17, 2, 0, 0, 0), (2, 0, 0, 0, 0), (0, 0, 0, 0, 0), (7, 7, 5, 47, 40), (27, 0, 0, 0, 0)]
def z_p_X7_forgetGiven : List Nat := [0, 1, 2, 3, 4, 7, 8, 11, 12, 15, 16, 17, 18, 21, 24, 25, 26, 29, 30]
def z_c_X7_keyOfGiven : List zI := [(0, 0, 0, 0, 0), (3, 1, 0, 0, 0), (0, 0, 1, 0, 0), (3, 2, 0, 0, 0), (1, 2, 0, 0, 0), (2, 0, 0, 0, 0), (6, 7, 1, 22, 36), (19, 29, 4, 0, 0), (2, 0, 0, 0, 0), (6, 7, 4, 19, 39), (1, 2, 0, 0, 0), (8, 0, 0, 0, 0), (0, 0, (-1), 0, 0), (19, 27, 0, 0, 0), (1, 1, 0, 0, 0), (2, 0, 0, 0, 0), (6, 7, 4, 19, 39), (1, 2, 0, 0, 0), (8, 0, 0, 0, 0), (2, 0, 0, 0, 0), (1, 2, 0, 0, 0), (21, 97, 7, 71, 620), (13, 2, 0, 0, 0), (13, 0, 0, 0, 0), (0, 0, 257, 0, 0), (13, 4, 0, 0, 0), (3, 1, 0, 0, 0), (5, 2, 1, 0, 0), (17, 4, 0, 0, 0), (1, 1, 0, 0, 0), (25, 0, 0, 0, 0)]
def z_p_X7_keyOfGiven : List Nat := [0, 1, 2, 3, 4, 5, 6, 9, 12, 13, 16, 17, 18, 19, 22, 23, 24, 27, 28, 29, 30, 31, 34, 35, 36, 39, 40, 41, 44, 47, 48, 49]
def z_c_X7_weightOf : List zI := [(0, 0, 1, 0, 0), (3, 2, 0, 0, 0), (0, 0, 1, 0, 0), (3, 3, 0, 0, 0), (1, 3, 0, 0, 0), (2, 0, 0, 0, 0), (6, 7, 1, 22, 36), (19, 34, 4, 0, 0), (2, 0, 0, 0, 0), (6, 7, 4, 19, 39), (1, 3, 0, 0, 0), (8, 0, 0, 0, 0), (0, 0, (-1), 0, 0), (19, 32, 0, 0, 0), (1, 3, 0, 0, 0), (1, 1, 0, 0, 0), (19, 32, 0, 0, 0), (1, 2, 0, 0, 0), (1, 3, 0, 0, 0), (13, 2, 0, 0, 0), (0, 0, 257, 0, 0), (13, 4, 0, 0, 0), (1, 3, 0, 0, 0), (1, 1, 0, 0, 0), (13, 1, 0, 0, 0), (0, 0, 257, 0, 0), (22, 323, 0, 74, 624), (22, 98, 0, 79, 627), (13, 2, 0, 0, 0), (0, 0, 257, 0, 0), (13, 4, 0, 0, 0), (3, 2, 0, 0, 0), (5, 3, 1, 0, 0), (17, 4, 0, 0, 0), (1, 2, 0, 0, 0), (25, 0, 0, 0, 0)]
def z_p_X7_weightOf : List Nat := [0, 1, 2, 3, 4, 5, 6, 9, 12, 13, 16, 17, 18, 19, 22, 23, 24, 27, 28, 29, 30, 33, 34, 35, 36, 37, 40, 43, 46, 47, 50, 51, 52, 55, 58, 59, 60]
def z_c_X7_inverse : List zI := [(0, 0, 1, 0, 0), (3, 1, 0, 0, 0), (1, 0, 0, 0, 0), (3, 2, 0, 0, 0), (0, 0, 0, 0, 0), (3, 3, 0, 0, 0), (1, 3, 0, 0, 0), (0, 0, 8, 0, 0), (19, 23, 3, 0, 0), (1, 1, 0, 0, 0), (1, 2, 0, 0, 0), (13, 2, 0, 0, 0), (0, 0, 257, 0, 0), (13, 4, 0, 0, 0), (3, 1, 0, 0, 0), (1, 2, 0, 0, 0), (1, 2, 0, 0, 0), (13, 2, 0, 0, 0), (0, 0, 257, 0, 0), (13, 4, 0, 0, 0), (3, 2, 0, 0, 0), (5, 3, 1, 0, 0), (17, 6, 0, 0, 0), (1, 1, 0, 0, 0), (25, 0, 0, 0, 0)]
def z_p_X7_inverse : List Nat := [0, 1, 2, 3, 4, 5, 6, 7, 9, 12, 13, 14, 15, 18, 19, 20, 21, 22, 23, 26, 27, 28, 31, 34, 35, 36]
def z_c_X8_hashOf : List zI := [(2, 0, 0, 0, 0), (6, 8, 3, 22, 371), (1, 1, 0, 0, 0), (8, 0, 0, 0, 0), (25, 0, 0, 0, 0)]
def z_p_X8_hashOf : List Nat := [0, 1, 4, 5, 6, 7]
def z_c_X8_change : List zI := [(2, 0, 0, 0, 0), (6, 8, 0, 9, 368), (1, 1, 0, 0, 0), (9, 0, 0, 0, 0), (3, 5, 0, 0, 0), (2, 0, 0, 0, 0), (6, 8, 0, 9, 368), (1, 1, 0, 0, 0), (1, 2, 0, 0, 0), (11, 0, 0, 0, 0), (2, 0, 0, 0, 0), (6, 8, 1, 15, 369), (1, 1, 0, 0, 0), (1, 3, 0, 0, 0), (11, 0, 0, 0, 0), (2, 0, 0, 0, 0), (6, 8, 2, 18, 370), (1, 1, 0, 0, 0), (1, 4, 0, 0, 0), (10, 0, 0, 0, 0), (1, 5, 0, 0, 0), (26, 0, 0, 0, 0)]
def z_p_X8_change : List Nat := [0, 1, 4, 5, 6, 8, 9, 12, 13, 14, 15, 16, 19, 20, 21, 22, 23, 26, 27, 29, 30, 32, 33]
def z_c_X8_areAllBlocking : List zI := [(0, 0, 0, 0, 0), (3, 1, 0, 0, 0), (0, 0, 0, 0, 0), (3, 2, 0, 0, 0), (1, 2, 0, 0, 0), (0, 0, 3, 0, 0), (19, 28, 3, 0, 0), (2, 0, 0, 0, 0), (6, 8, 0, 9, 368), (1, 2, 0, 0, 0), (9, 0, 0, 0, 0), (18, 19, 0, 0, 0), (2, 0, 0, 0, 0), (6, 8, 1, 15, 369), (1, 2, 0, 0, 0), (9, 0, 0, 0, 0), (18, 19, 1, 0, 0), (0, 0, 0, 0, 0), (26, 0, 0, 0, 0), (1, 1, 0, 0, 0), (2, 0, 0, 0, 0), (6, 8, 0, 9, 368), (1, 2, 0, 0, 0), (9, 0, 0, 0, 0), (13, 6, 0, 0, 0), (3, 1, 0, 0, 0), (5, 2, 1, 0, 0), (17, 4, 0, 0, 0), (1, 1, 0, 0, 0), (26, 0, 0, 0, 0)]
def z_p_X8_areAllBlocking : List Nat := [0, 1, 2, 3, 4, 5, 6, 9, 10, 13, 14, 15, 18, 19, 22, 23, 24, 27, 28, 29, 30, 31, 34, 35, 36, 37, 38, 41, 44, 45, 46]
def z_c_X8_tell : List zI := [(1, 4, 0, 0, 0), (18, 6, 3, 0, 0), (0, 0, 60000, 25, 870), (1, 4, 0, 0, 0), (13, 0, 0, 0, 0), (17, 7, 0, 0, 0), (1, 4, 0, 0, 0), (3, 5, 0, 0, 0), (0, 0, 7, 0, 0), (1, 1, 0, 0, 0), (13, 2, 0, 0, 0), (1, 2, 0, 0, 0), (13, 0, 0, 0, 0), (0, 0, 1000, 0, 0), (1, 3, 0, 0, 0), (22, 103, 0, 26, 871), (13, 2, 0, 0, 0), (13, 0, 0, 0, 0), (3, 6, 0, 0, 0), (0, 0, 0, 0, 0), (3, 7, 0, 0, 0), (1, 7, 0, 0, 0), (0, 0, 3, 0, 0), (19, 57, 3, 0, 0), (2, 0, 0, 0, 0), (6, 8, 0, 9, 368), (1, 7, 0, 0, 0), (9, 0, 0, 0, 0), (18, 55, 0, 0, 0), (2, 0, 0, 0, 0), (6, 8, 1, 15, 369), (1, 7, 0, 0, 0), (9, 0, 0, 0, 0), (18, 55, 1, 0, 0), (2, 0, 0, 0, 0), (6, 8, 3, 22, 371), (1, 7, 0, 0, 0), (0, 0, 31, 0, 0), (2, 0, 0, 0, 0), (6, 8, 3, 22, 371), (1, 7, 0, 0, 0), (8, 0, 0, 0, 0), (13, 2, 0, 0, 0), (1, 6, 0, 0, 0), (13, 0, 0, 0, 0), (1, 5, 0, 0, 0), (2, 0, 0, 0, 0), (6, 8, 2, 18, 370), (1, 7, 0, 0, 0), (8, 0, 0, 0, 0), (13, 2, 0, 0, 0), (13, 0, 0, 0, 0), (0, 0, 65521, 30, 874), (13, 4, 0, 0, 0), (10, 0, 0, 0, 0), (5, 7, 1, 0, 0), (17, 21, 0, 0, 0), (27, 0, 0, 0, 0)]
def z_p_X8_tell : List Nat := [0, 2, 5, 7, 9, 10, 13, 15, 17, 19, 20, 21, 22, 23, 26, 27, 30, 31, 32, 34, 35, 37, 39, 40, 43, 44, 47, 49, 50, 53, 54, 57, 59, 60, 63, 64, 67, 69, 71, 72, 75, 77, 78, 79, 81, 82, 84, 85, 88, 90, 91, 92, 93, 95, 96, 97, 100, 103, 104]
def z_c_X8_numberOf : List zI := [(1, 0, 0, 0, 0), (20, 0, 0, 0, 0), (0, 0, 1, 0, 0), (25, 0, 0, 0, 0), (0, 0, 2, 0, 0), (25, 0, 0, 0, 0), (0, 0, 3, 0, 0), (25, 0, 0, 0, 0), (0, 0, 0, 0, 0), (25, 0, 0, 0, 0)]
def z_p_X8_numberOf : List Nat := [0, 1, 36, 37, 38, 39, 40, 41, 42, 43, 44]
def z_c_X9_lastOf : List zI := [(2, 0, 0, 0, 0), (6, 9, 0, 9, 238), (1, 1, 0, 0, 0), (8, 0, 0, 0, 0), (25, 0, 0, 0, 0)]
def z_p_X9_lastOf : List Nat := [0, 1, 4, 5, 6, 7]
def z_c_X9_stateAt : List zI := [(2, 0, 0, 0, 0), (6, 9, 3, 21, 257), (1, 1, 0, 0, 0), (8, 0, 0, 0, 0), (25, 0, 0, 0, 0)]
def z_p_X9_stateAt : List Nat := [0, 1, 4, 5, 6, 7]
def z_c_X9_keyAt : List zI := [(2, 0, 0, 0, 0), (6, 9, 2, 18, 256), (1, 1, 0, 0, 0), (8, 0, 0, 0, 0), (25, 0, 0, 0, 0)]
def z_p_X9_keyAt : List Nat := [0, 1, 4, 5, 6, 7]
def z_c_X9_slotOf : List zI := [(2, 0, 0, 0, 0), (6, 9, 0, 9, 238), (1, 1, 0, 0, 0), (8, 0, 0, 0, 0), (3, 3, 0, 0, 0), (1, 2, 0, 0, 0), (18, 9, 1, 0, 0), (1, 3, 0, 0, 0), (17, 10, 0, 0, 0), (1, 2, 0, 0, 0), (3, 4, 0, 0, 0), (1, 4, 0, 0, 0), (0, 0, 1, 0, 0), (19, 24, 2, 0, 0), (1, 4, 0, 0, 0), (1, 3, 0, 0, 0), (19, 24, 4, 0, 0), (1, 4, 0, 0, 0), (1, 3, 0, 0, 0), (0, 0, 4, 0, 0), (13, 1, 0, 0, 0), (19, 24, 5, 0, 0), (0, 0, 1, 0, 0), (17, 25, 0, 0, 0), (0, 0, 0, 0, 0), (3, 5, 0, 0, 0), (1, 5, 0, 0, 0), (18, 36, 0, 0, 0), (1, 1, 0, 0, 0), (0, 0, 4, 0, 0), (13, 2, 0, 0, 0), (1, 4, 0, 0, 0), (0, 0, 4, 0, 0), (22, 323, 0, 24, 856), (13, 0, 0, 0, 0), (17, 37, 0, 0, 0), (0, 0, (-1), 0, 0), (25, 0, 0, 0, 0)]
def z_p_X9_slotOf : List Nat := [0, 1, 4, 5, 6, 7, 8, 11, 12, 15, 16, 18, 20, 21, 24, 26, 27, 30, 32, 33, 34, 35, 38, 39, 42, 43, 45, 47, 50, 51, 52, 53, 55, 56, 59, 60, 63, 64, 65]
def z_c_X9_put : List zI := [(2, 0, 0, 0, 0), (6, 9, 0, 9, 238), (1, 1, 0, 0, 0), (8, 0, 0, 0, 0), (0, 0, 1, 0, 0), (13, 0, 0, 0, 0), (3, 4, 0, 0, 0), (1, 1, 0, 0, 0), (0, 0, 4, 0, 0), (13, 2, 0, 0, 0), (1, 4, 0, 0, 0), (0, 0, 4, 0, 0), (22, 323, 0, 24, 856), (13, 0, 0, 0, 0), (3, 5, 0, 0, 0), (2, 0, 0, 0, 0), (6, 9, 0, 9, 238), (1, 1, 0, 0, 0), (1, 4, 0, 0, 0), (10, 0, 0, 0, 0), (2, 0, 0, 0, 0), (6, 9, 1, 15, 239), (1, 5, 0, 0, 0), (1, 2, 0, 0, 0), (10, 0, 0, 0, 0), (2, 0, 0, 0, 0), (6, 9, 2, 18, 256), (1, 5, 0, 0, 0), (1, 3, 0, 0, 0), (10, 0, 0, 0, 0), (2, 0, 0, 0, 0), (6, 9, 3, 21, 257), (1, 5, 0, 0, 0), (0, 0, 0, 0, 0), (10, 0, 0, 0, 0), (1, 4, 0, 0, 0), (25, 0, 0, 0, 0)]
def z_p_X9_put : List Nat := [0, 1, 4, 5, 6, 7, 8, 10, 11, 12, 13, 15, 16, 19, 20, 22, 23, 26, 27, 29, 30, 31, 34, 36, 37, 38, 39, 42, 44, 45, 46, 47, 50, 52, 53, 54, 56, 57]
def z_c_X9_setState : List zI := [(2, 0, 0, 0, 0), (6, 9, 3, 21, 257), (1, 1, 0, 0, 0), (8, 0, 0, 0, 0), (3, 3, 0, 0, 0), (2, 0, 0, 0, 0), (6, 9, 3, 21, 257), (1, 1, 0, 0, 0), (1, 2, 0, 0, 0), (10, 0, 0, 0, 0), (1, 2, 0, 0, 0), (0, 0, 2, 0, 0), (19, 18, 1, 0, 0), (2, 0, 0, 0, 0), (6, 9, 1, 15, 239), (1, 1, 0, 0, 0), (0, 0, (-1), 0, 0), (10, 0, 0, 0, 0), (1, 3, 0, 0, 0), (25, 0, 0, 0, 0)]
def z_p_X9_setState : List Nat := [0, 1, 4, 5, 6, 7, 8, 11, 12, 13, 14, 15, 16, 19, 20, 23, 24, 25, 26, 27, 28]
def z_c_X9_numberOrWhyNot : List zI := [(2, 0, 0, 0, 0), (1, 1, 0, 0, 0), (1, 2, 0, 0, 0), (21, 107, 9, 30, 852), (3, 4, 0, 0, 0), (1, 4, 0, 0, 0), (0, 0, (-1), 0, 0), (19, 13, 0, 0, 0), (2, 0, 0, 0, 0), (6, 9, 3, 21, 257), (1, 4, 0, 0, 0), (8, 0, 0, 0, 0), (18, 15, 0, 0, 0), (0, 0, (-7), 0, 0), (25, 0, 0, 0, 0), (2, 0, 0, 0, 0), (6, 9, 2, 18, 256), (1, 4, 0, 0, 0), (8, 0, 0, 0, 0), (1, 3, 0, 0, 0), (19, 23, 3, 0, 0), (0, 0, (-9), 0, 0), (17, 27, 0, 0, 0), (2, 0, 0, 0, 0), (6, 9, 1, 15, 239), (1, 4, 0, 0, 0), (8, 0, 0, 0, 0), (25, 0, 0, 0, 0)]
def z_p_X9_numberOrWhyNot : List Nat := [0, 1, 2, 3, 6, 8, 10, 11, 14, 15, 18, 20, 21, 24, 26, 27, 28, 31, 33, 34, 35, 38, 40, 43, 44, 47, 49, 50, 51]
def z_c_X9_forget : List zI := [(1, 1, 0, 0, 0), (3, 3, 0, 0, 0), (1, 3, 0, 0, 0), (1, 2, 0, 0, 0), (19, 12, 3, 0, 0), (2, 0, 0, 0, 0), (6, 9, 0, 9, 238), (1, 3, 0, 0, 0), (0, 0, 0, 0, 0), (10, 0, 0, 0, 0), (5, 3, 1, 0, 0), (17, 2, 0, 0, 0), (27, 0, 0, 0, 0)]
def z_p_X9_forget : List Nat := [0, 1, 2, 3, 4, 7, 8, 11, 12, 13, 14, 17, 20, 21]
def z_c_X9_rewrapUpTo : List zI := [(2, 2, 0, 0, 0), (21, 37, 4, 33, 1336), (3, 4, 0, 0, 0), (0, 0, 0, 0, 0), (3, 5, 0, 0, 0), (0, 0, 0, 0, 0), (3, 6, 0, 0, 0), (1, 6, 0, 0, 0), (0, 0, 216, 0, 0), (19, 69, 3, 0, 0), (0, 0, 1, 0, 0), (2, 0, 0, 0, 0), (6, 9, 0, 9, 238), (1, 6, 0, 0, 0), (8, 0, 0, 0, 0), (0, 0, 4, 0, 0), (13, 1, 0, 0, 0), (0, 0, 1, 0, 0), (13, 0, 0, 0, 0), (23, 0, 0, 39, 1337), (3, 7, 0, 0, 0), (1, 7, 0, 0, 0), (2, 0, 0, 0, 0), (6, 9, 0, 9, 238), (1, 6, 0, 0, 0), (8, 0, 0, 0, 0), (19, 67, 4, 0, 0), (1, 5, 0, 0, 0), (1, 1, 0, 0, 0), (19, 67, 3, 0, 0), (1, 6, 0, 0, 0), (0, 0, 4, 0, 0), (13, 2, 0, 0, 0), (1, 7, 0, 0, 0), (0, 0, 4, 0, 0), (22, 323, 0, 24, 856), (13, 0, 0, 0, 0), (3, 8, 0, 0, 0), (2, 0, 0, 0, 0), (6, 9, 3, 21, 257), (1, 8, 0, 0, 0), (8, 0, 0, 0, 0), (0, 0, 2, 0, 0), (19, 65, 0, 0, 0), (2, 0, 0, 0, 0), (6, 9, 2, 18, 256), (1, 8, 0, 0, 0), (8, 0, 0, 0, 0), (1, 4, 0, 0, 0), (19, 65, 3, 0, 0), (2, 0, 0, 0, 0), (6, 9, 2, 18, 256), (1, 8, 0, 0, 0), (8, 0, 0, 0, 0), (2, 2, 0, 0, 0), (21, 38, 4, 42, 1338), (19, 65, 2, 0, 0), (2, 0, 0, 0, 0), (6, 9, 2, 18, 256), (1, 8, 0, 0, 0), (2, 2, 0, 0, 0), (1, 3, 0, 0, 0), (21, 41, 4, 45, 1339), (10, 0, 0, 0, 0), (5, 5, 1, 0, 0), (5, 7, 1, 0, 0), (17, 21, 0, 0, 0), (5, 6, 1, 0, 0), (17, 7, 0, 0, 0), (1, 5, 0, 0, 0), (25, 0, 0, 0, 0)]
def z_p_X9_rewrapUpTo : List Nat := [0, 1, 4, 6, 7, 9, 10, 12, 14, 17, 20, 21, 22, 25, 27, 28, 29, 30, 31, 32, 35, 37, 39, 40, 43, 45, 46, 49, 51, 52, 55, 57, 58, 59, 61, 62, 65, 66, 68, 69, 72, 74, 75, 76, 79, 80, 83, 85, 86, 88, 91, 92, 95, 97, 98, 99, 102, 105, 106, 109, 111, 112, 113, 116, 117, 120, 123, 126, 129, 132, 134, 135]
def z_c_X10_count : List zI := [(2, 0, 0, 0, 0), (6, 10, 0, 46, 154), (25, 0, 0, 0, 0)]
def z_p_X10_count : List Nat := [0, 1, 4, 5]
def z_c_X10_isFull : List zI := [(2, 0, 0, 0, 0), (6, 10, 0, 46, 154), (0, 0, 40, 0, 0), (19, 6, 2, 0, 0), (0, 0, 1, 0, 0), (17, 7, 0, 0, 0), (0, 0, 0, 0, 0), (26, 0, 0, 0, 0)]
def z_p_X10_isFull : List Nat := [0, 1, 4, 6, 9, 10, 13, 14, 15]
def z_c_X10_isThere : List zI := [(1, 1, 0, 0, 0), (18, 8, 2, 0, 0), (1, 1, 0, 0, 0), (2, 0, 0, 0, 0), (6, 10, 0, 46, 154), (19, 8, 3, 0, 0), (0, 0, 1, 0, 0), (17, 9, 0, 0, 0), (0, 0, 0, 0, 0), (26, 0, 0, 0, 0)]
def z_p_X10_isThere : List Nat := [0, 1, 4, 5, 6, 9, 12, 13, 16, 17, 18]
def z_c_X10_isAlive : List zI := [(2, 0, 0, 0, 0), (6, 10, 11, 43, 165), (1, 1, 0, 0, 0), (9, 0, 0, 0, 0), (18, 7, 1, 0, 0), (0, 0, 1, 0, 0), (17, 8, 0, 0, 0), (0, 0, 0, 0, 0), (26, 0, 0, 0, 0)]
def z_p_X10_isAlive : List Nat := [0, 1, 4, 5, 6, 9, 10, 13, 14, 15]
def z_c_X10_isBatch : List zI := [(2, 0, 0, 0, 0), (6, 10, 2, 15, 156), (1, 1, 0, 0, 0), (8, 0, 0, 0, 0), (0, 0, 1, 0, 0), (19, 8, 1, 0, 0), (0, 0, 1, 0, 0), (17, 9, 0, 0, 0), (0, 0, 0, 0, 0), (26, 0, 0, 0, 0)]
def z_p_X10_isBatch : List Nat := [0, 1, 4, 5, 6, 7, 10, 11, 14, 15, 16]
def z_c_X10_personOf : List zI := [(2, 0, 0, 0, 0), (6, 10, 3, 18, 157), (1, 1, 0, 0, 0), (8, 0, 0, 0, 0), (25, 0, 0, 0, 0)]
def z_p_X10_personOf : List Nat := [0, 1, 4, 5, 6, 7]
def z_c_X10_policiesOf : List zI := [(2, 0, 0, 0, 0), (6, 10, 4, 21, 158), (1, 1, 0, 0, 0), (8, 0, 0, 0, 0), (25, 0, 0, 0, 0)]
def z_p_X10_policiesOf : List Nat := [0, 1, 4, 5, 6, 7]
def z_c_X10_endAt : List zI := [(2, 0, 0, 0, 0), (6, 10, 5, 24, 159), (1, 1, 0, 0, 0), (8, 0, 0, 0, 0), (25, 0, 0, 0, 0)]
def z_p_X10_endAt : List Nat := [0, 1, 4, 5, 6, 7]
def z_c_X10_usesLeft : List zI := [(2, 0, 0, 0, 0), (6, 10, 8, 33, 162), (1, 1, 0, 0, 0), (8, 0, 0, 0, 0), (25, 0, 0, 0, 0)]
def z_p_X10_usesLeft : List Nat := [0, 1, 4, 5, 6, 7]
def z_c_X10_add : List zI := [(2, 0, 0, 0, 0), (6, 10, 0, 46, 154), (3, 5, 0, 0, 0), (2, 0, 0, 0, 0), (6, 10, 1, 11, 155), (1, 5, 0, 0, 0), (1, 1, 0, 0, 0), (10, 0, 0, 0, 0), (2, 0, 0, 0, 0), (6, 10, 2, 15, 156), (1, 5, 0, 0, 0), (1, 2, 0, 0, 0), (10, 0, 0, 0, 0), (2, 0, 0, 0, 0), (6, 10, 3, 18, 157), (1, 5, 0, 0, 0), (1, 3, 0, 0, 0), (10, 0, 0, 0, 0), (2, 0, 0, 0, 0), (6, 10, 4, 21, 158), (1, 5, 0, 0, 0), (1, 4, 0, 0, 0), (10, 0, 0, 0, 0), (2, 0, 0, 0, 0), (14, 0, 0, 0, 0), (6, 10, 0, 46, 154), (0, 0, 1, 0, 0), (13, 0, 0, 0, 0), (7, 10, 0, 46, 154), (1, 5, 0, 0, 0), (25, 0, 0, 0, 0)]
def z_p_X10_add : List Nat := [0, 1, 4, 6, 7, 10, 12, 13, 14, 15, 18, 20, 21, 22, 23, 26, 28, 29, 30, 31, 34, 36, 38, 39, 40, 41, 44, 45, 46, 49, 51, 52]
def z_c_X10_bound : List zI := [(2, 0, 0, 0, 0), (6, 10, 5, 24, 159), (1, 1, 0, 0, 0), (1, 2, 0, 0, 0), (1, 3, 0, 0, 0), (13, 0, 0, 0, 0), (10, 0, 0, 0, 0), (2, 0, 0, 0, 0), (6, 10, 6, 27, 160), (1, 1, 0, 0, 0), (1, 2, 0, 0, 0), (1, 4, 0, 0, 0), (13, 0, 0, 0, 0), (10, 0, 0, 0, 0), (2, 0, 0, 0, 0), (6, 10, 7, 30, 161), (1, 1, 0, 0, 0), (1, 3, 0, 0, 0), (10, 0, 0, 0, 0), (27, 0, 0, 0, 0)]
def z_p_X10_bound : List Nat := [0, 1, 4, 5, 6, 7, 8, 9, 10, 13, 14, 15, 17, 18, 19, 20, 23, 24, 25, 26, 27]
def z_c_X10_limit : List zI := [(2, 0, 0, 0, 0), (6, 10, 8, 33, 162), (1, 1, 0, 0, 0), (1, 2, 0, 0, 0), (10, 0, 0, 0, 0), (2, 0, 0, 0, 0), (6, 10, 9, 36, 163), (1, 1, 0, 0, 0), (1, 3, 0, 0, 0), (10, 0, 0, 0, 0), (2, 0, 0, 0, 0), (6, 10, 10, 39, 164), (1, 1, 0, 0, 0), (1, 4, 0, 0, 0), (11, 0, 0, 0, 0), (27, 0, 0, 0, 0)]
def z_p_X10_limit : List Nat := [0, 1, 4, 5, 6, 7, 8, 11, 12, 13, 14, 15, 18, 19, 21, 22, 23]
def z_c_X10_prolong : List zI := [(2, 0, 0, 0, 0), (6, 10, 2, 15, 156), (1, 1, 0, 0, 0), (8, 0, 0, 0, 0), (0, 0, 2, 0, 0), (19, 8, 1, 0, 0), (0, 0, 1, 0, 0), (17, 9, 0, 0, 0), (0, 0, 0, 0, 0), (3, 4, 0, 0, 0), (2, 0, 0, 0, 0), (6, 10, 5, 24, 159), (1, 1, 0, 0, 0), (1, 4, 0, 0, 0), (18, 22, 0, 0, 0), (1, 2, 0, 0, 0), (2, 0, 0, 0, 0), (6, 10, 7, 30, 161), (1, 1, 0, 0, 0), (8, 0, 0, 0, 0), (13, 0, 0, 0, 0), (17, 30, 0, 0, 0), (1, 2, 0, 0, 0), (1, 3, 0, 0, 0), (13, 0, 0, 0, 0), (2, 0, 0, 0, 0), (6, 10, 6, 27, 160), (1, 1, 0, 0, 0), (8, 0, 0, 0, 0), (24, 0, 0, 50, 974), (10, 0, 0, 0, 0), (2, 0, 0, 0, 0), (6, 10, 5, 24, 159), (1, 1, 0, 0, 0), (8, 0, 0, 0, 0), (25, 0, 0, 0, 0)]
def z_p_X10_prolong : List Nat := [0, 1, 4, 5, 6, 7, 10, 11, 14, 15, 17, 18, 21, 22, 24, 27, 28, 29, 32, 33, 34, 35, 38, 39, 40, 41, 42, 45, 46, 47, 50, 51, 52, 55, 56, 57, 58]
def z_c_X10_handOver : List zI := [(0, 0, 0, 0, 0), (3, 3, 0, 0, 0), (1, 3, 0, 0, 0), (2, 0, 0, 0, 0), (6, 10, 0, 46, 154), (19, 19, 3, 0, 0), (2, 0, 0, 0, 0), (6, 10, 3, 18, 157), (1, 3, 0, 0, 0), (8, 0, 0, 0, 0), (1, 1, 0, 0, 0), (19, 17, 1, 0, 0), (2, 0, 0, 0, 0), (6, 10, 3, 18, 157), (1, 3, 0, 0, 0), (1, 2, 0, 0, 0), (10, 0, 0, 0, 0), (5, 3, 1, 0, 0), (17, 2, 0, 0, 0), (27, 0, 0, 0, 0)]
def z_p_X10_handOver : List Nat := [0, 1, 2, 3, 4, 7, 10, 11, 14, 15, 16, 17, 20, 21, 24, 25, 26, 27, 30, 33, 34]
def z_c_X10_isUsableFrom : List zI := [(2, 0, 0, 0, 0), (1, 1, 0, 0, 0), (21, 115, 10, 56, 775), (18, 20, 0, 0, 0), (2, 0, 0, 0, 0), (1, 1, 0, 0, 0), (21, 116, 10, 60, 779), (18, 20, 0, 0, 0), (2, 0, 0, 0, 0), (6, 10, 9, 36, 163), (1, 1, 0, 0, 0), (8, 0, 0, 0, 0), (1, 2, 0, 0, 0), (13, 9, 0, 0, 0), (0, 0, 1, 0, 0), (13, 5, 0, 0, 0), (0, 0, 1, 0, 0), (19, 20, 1, 0, 0), (0, 0, 1, 0, 0), (17, 21, 0, 0, 0), (0, 0, 0, 0, 0), (26, 0, 0, 0, 0)]
def z_p_X10_isUsableFrom : List Nat := [0, 1, 2, 5, 8, 9, 10, 13, 16, 17, 20, 21, 22, 23, 24, 25, 26, 27, 30, 31, 34, 35, 36]
def z_c_X10_countUse : List zI := [(2, 0, 0, 0, 0), (6, 10, 8, 33, 162), (1, 1, 0, 0, 0), (8, 0, 0, 0, 0), (18, 13, 5, 0, 0), (2, 0, 0, 0, 0), (6, 10, 8, 33, 162), (1, 1, 0, 0, 0), (15, 0, 0, 0, 0), (8, 0, 0, 0, 0), (0, 0, 1, 0, 0), (13, 1, 0, 0, 0), (10, 0, 0, 0, 0), (27, 0, 0, 0, 0)]
def z_p_X10_countUse : List Nat := [0, 1, 4, 5, 6, 9, 10, 13, 14, 15, 16, 17, 18, 19, 20]
def z_c_X10_kill : List zI := [(2, 0, 0, 0, 0), (6, 10, 11, 43, 165), (1, 1, 0, 0, 0), (9, 0, 0, 0, 0), (18, 7, 0, 0, 0), (0, 0, 0, 0, 0), (25, 0, 0, 0, 0), (2, 0, 0, 0, 0), (6, 10, 11, 43, 165), (1, 1, 0, 0, 0), (0, 0, 1, 0, 0), (11, 0, 0, 0, 0), (0, 0, 1, 0, 0), (3, 2, 0, 0, 0), (1, 1, 0, 0, 0), (0, 0, 1, 0, 0), (13, 0, 0, 0, 0), (3, 3, 0, 0, 0), (1, 3, 0, 0, 0), (2, 0, 0, 0, 0), (6, 10, 0, 46, 154), (19, 39, 3, 0, 0), (2, 0, 0, 0, 0), (6, 10, 11, 43, 165), (1, 3, 0, 0, 0), (9, 0, 0, 0, 0), (18, 37, 1, 0, 0), (2, 0, 0, 0, 0), (1, 3, 0, 0, 0), (21, 130, 10, 63, 887), (18, 37, 0, 0, 0), (2, 0, 0, 0, 0), (6, 10, 11, 43, 165), (1, 3, 0, 0, 0), (0, 0, 1, 0, 0), (11, 0, 0, 0, 0), (5, 2, 1, 0, 0), (5, 3, 1, 0, 0), (17, 18, 0, 0, 0), (1, 2, 0, 0, 0), (25, 0, 0, 0, 0)]
def z_p_X10_kill : List Nat := [0, 1, 4, 5, 6, 9, 10, 11, 12, 15, 16, 17, 18, 19, 20, 21, 22, 23, 24, 25, 26, 29, 32, 33, 36, 37, 38, 41, 42, 43, 46, 49, 50, 53, 54, 55, 56, 59, 62, 65, 66, 67]
def z_c_X10_isLeftByDead : List zI := [(2, 0, 0, 0, 0), (6, 10, 1, 11, 155), (1, 1, 0, 0, 0), (8, 0, 0, 0, 0), (3, 2, 0, 0, 0), (2, 0, 0, 0, 0), (6, 10, 10, 39, 164), (1, 1, 0, 0, 0), (9, 0, 0, 0, 0), (18, 21, 1, 0, 0), (2, 0, 0, 0, 0), (1, 2, 0, 0, 0), (21, 115, 10, 56, 775), (18, 21, 0, 0, 0), (2, 0, 0, 0, 0), (6, 10, 11, 43, 165), (1, 2, 0, 0, 0), (9, 0, 0, 0, 0), (18, 21, 0, 0, 0), (0, 0, 1, 0, 0), (17, 22, 0, 0, 0), (0, 0, 0, 0, 0), (26, 0, 0, 0, 0)]
def z_p_X10_isLeftByDead : List Nat := [0, 1, 4, 5, 6, 7, 8, 11, 12, 13, 16, 17, 18, 21, 24, 25, 28, 29, 30, 33, 34, 37, 38, 39]
def z_c_X11_deal : List zI := [(1, 1, 0, 0, 0), (1, 2, 0, 0, 0), (1, 3, 0, 0, 0), (22, 194, 0, 86, 432), (22, 186, 0, 90, 439), (2, 0, 0, 0, 0), (6, 11, 0, 10, 381), (21, 82, 7, 94, 521), (18, 11, 1, 0, 0), (0, 0, 1, 0, 0), (17, 12, 0, 0, 0), (0, 0, 0, 0, 0), (22, 187, 0, 98, 525), (2, 0, 0, 0, 0), (6, 11, 0, 10, 381), (1, 1, 0, 0, 0), (1, 2, 0, 0, 0), (1, 3, 0, 0, 0), (21, 87, 7, 101, 543), (27, 0, 0, 0, 0)]
def z_p_X11_deal : List Nat := [0, 1, 2, 3, 6, 9, 10, 13, 16, 19, 20, 23, 24, 27, 28, 31, 32, 33, 34, 37, 38]
def z_c_X11_share : List zI := [(2, 0, 0, 0, 0), (6, 11, 0, 10, 381), (1, 1, 0, 0, 0), (21, 83, 7, 105, 578), (22, 185, 0, 109, 582), (2, 0, 0, 0, 0), (6, 11, 0, 10, 381), (1, 1, 0, 0, 0), (21, 84, 7, 112, 600), (25, 0, 0, 0, 0)]
def z_p_X11_share : List Nat := [0, 1, 4, 5, 8, 11, 12, 15, 16, 19, 20]
def z_c_X11_give : List zI := [(2, 0, 0, 0, 0), (6, 11, 0, 10, 381), (1, 1, 0, 0, 0), (21, 83, 7, 105, 578), (22, 185, 0, 109, 582), (1, 2, 0, 0, 0), (0, 0, 0, 0, 0), (0, 0, 256, 0, 0), (22, 188, 0, 116, 436), (22, 186, 0, 90, 439), (2, 0, 0, 0, 0), (6, 11, 0, 10, 381), (21, 85, 7, 119, 559), (18, 16, 1, 0, 0), (0, 0, 1, 0, 0), (17, 17, 0, 0, 0), (0, 0, 0, 0, 0), (22, 187, 0, 98, 525), (2, 0, 0, 0, 0), (6, 11, 0, 10, 381), (1, 1, 0, 0, 0), (1, 2, 0, 0, 0), (21, 88, 7, 122, 608), (25, 0, 0, 0, 0)]
def z_p_X11_give : List Nat := [0, 1, 4, 5, 8, 11, 12, 13, 16, 19, 22, 23, 26, 29, 32, 33, 36, 37, 40, 41, 44, 45, 46, 49, 50]
def z_c_X11_seal : List zI := [(2, 0, 0, 0, 0), (6, 11, 0, 10, 381), (21, 91, 7, 126, 730), (26, 0, 0, 0, 0)]
def z_p_X11_seal : List Nat := [0, 1, 4, 7, 8]
def z_c_X11_isOpen : List zI := [(2, 0, 0, 0, 0), (6, 11, 0, 10, 381), (21, 85, 7, 119, 559), (26, 0, 0, 0, 0)]
def z_p_X11_isOpen : List Nat := [0, 1, 4, 7, 8]
def z_c_X11_setBounds : List zI := [(1, 1, 0, 0, 0), (0, 0, 1, 0, 0), (0, 0, 1000, 0, 0), (22, 188, 0, 116, 436), (18, 12, 0, 0, 0), (1, 2, 0, 0, 0), (0, 0, 1, 0, 0), (0, 0, 1000, 0, 0), (22, 188, 0, 116, 436), (18, 12, 0, 0, 0), (0, 0, 1, 0, 0), (17, 13, 0, 0, 0), (0, 0, 0, 0, 0), (22, 186, 0, 90, 439), (2, 0, 0, 0, 0), (6, 11, 1, 19, 382), (1, 1, 0, 0, 0), (1, 2, 0, 0, 0), (21, 36, 4, 138, 1316), (27, 0, 0, 0, 0)]
def z_p_X11_setBounds : List Nat := [0, 1, 2, 5, 8, 11, 12, 13, 16, 19, 22, 23, 26, 27, 30, 31, 34, 35, 36, 39, 40]
def z_c_X11_turn : List zI := [(2, 0, 0, 0, 0), (6, 11, 1, 19, 382), (2, 0, 0, 0, 0), (6, 11, 11, 142, 392), (21, 40, 4, 146, 1311), (25, 0, 0, 0, 0)]
def z_p_X11_turn : List Nat := [0, 1, 4, 5, 8, 11, 12]
def z_c_X11_retire : List zI := [(1, 1, 0, 0, 0), (2, 0, 0, 0, 0), (6, 11, 1, 19, 382), (21, 38, 4, 149, 844), (2, 0, 0, 0, 0), (6, 11, 1, 19, 382), (21, 37, 4, 153, 567), (22, 188, 0, 116, 436), (22, 186, 0, 90, 439), (2, 0, 0, 0, 0), (6, 11, 1, 19, 382), (1, 1, 0, 0, 0), (21, 39, 4, 156, 1324), (25, 0, 0, 0, 0)]
def z_p_X11_retire : List Nat := [0, 1, 2, 5, 8, 9, 12, 15, 18, 21, 22, 25, 26, 29, 30]
def z_c_X11_rewrap : List zI := [(1, 1, 0, 0, 0), (0, 0, 1, 0, 0), (0, 0, 50, 0, 0), (22, 188, 0, 116, 436), (22, 186, 0, 90, 439), (2, 0, 0, 0, 0), (6, 11, 0, 10, 381), (21, 85, 7, 119, 559), (22, 187, 0, 98, 525), (2, 0, 0, 0, 0), (6, 11, 6, 54, 387), (1, 1, 0, 0, 0), (2, 0, 0, 0, 0), (6, 11, 1, 19, 382), (2, 0, 0, 0, 0), (6, 11, 11, 142, 392), (21, 112, 9, 159, 1332), (25, 0, 0, 0, 0)]
def z_p_X11_rewrap : List Nat := [0, 1, 2, 4, 7, 10, 11, 14, 17, 20, 21, 24, 25, 26, 29, 30, 33, 36, 37]
def z_c_X11_key : List zI := [(2, 0, 0, 0, 0), (6, 11, 1, 19, 382), (21, 37, 4, 153, 567), (25, 0, 0, 0, 0)]
def z_p_X11_key : List Nat := [0, 1, 4, 7, 8]
def z_c_X11_mount : List zI := [(1, 2, 0, 0, 0), (0, 0, 1, 0, 0), (19, 5, 1, 0, 0), (0, 0, 2, 0, 0), (17, 6, 0, 0, 0), (0, 0, 0, 0, 0), (3, 4, 0, 0, 0), (1, 1, 0, 0, 0), (22, 190, 0, 163, 638), (18, 22, 0, 0, 0), (1, 2, 0, 0, 0), (0, 0, (-1), 0, 0), (0, 0, 2, 0, 0), (22, 188, 0, 116, 436), (18, 22, 0, 0, 0), (1, 3, 0, 0, 0), (0, 0, 0, 0, 0), (1, 4, 0, 0, 0), (22, 188, 0, 116, 436), (18, 22, 0, 0, 0), (0, 0, 1, 0, 0), (17, 23, 0, 0, 0), (0, 0, 0, 0, 0), (22, 186, 0, 90, 439), (1, 2, 0, 0, 0), (0, 0, (-1), 0, 0), (19, 29, 1, 0, 0), (0, 0, 1, 0, 0), (17, 30, 0, 0, 0), (0, 0, 0, 0, 0), (2, 0, 0, 0, 0), (6, 11, 2, 26, 383), (1, 1, 0, 0, 0), (21, 8, 1, 166, 644), (0, 0, (-1), 0, 0), (19, 38, 0, 0, 0), (0, 0, 1, 0, 0), (17, 39, 0, 0, 0), (0, 0, 0, 0, 0), (19, 42, 1, 0, 0), (0, 0, 1, 0, 0), (17, 43, 0, 0, 0), (0, 0, 0, 0, 0), (22, 187, 0, 98, 525), (2, 0, 0, 0, 0), (6, 11, 2, 26, 383), (1, 1, 0, 0, 0), (1, 2, 0, 0, 0), (1, 3, 0, 0, 0), (21, 10, 1, 169, 648), (1, 2, 0, 0, 0), (0, 0, (-1), 0, 0), (19, 56, 1, 0, 0), (2, 0, 0, 0, 0), (1, 1, 0, 0, 0), (21, 209, 11, 172, 652), (27, 0, 0, 0, 0)]
def z_p_X11_mount : List Nat := [0, 1, 2, 5, 6, 9, 10, 12, 13, 16, 19, 20, 21, 22, 25, 28, 29, 30, 32, 35, 38, 39, 42, 43, 46, 47, 48, 51, 52, 55, 56, 57, 60, 61, 64, 65, 68, 69, 72, 73, 76, 77, 80, 81, 84, 85, 88, 89, 90, 91, 94, 95, 96, 99, 100, 101, 104, 105]
def z_c_X11_setQuota : List zI := [(1, 1, 0, 0, 0), (22, 190, 0, 163, 638), (18, 10, 0, 0, 0), (1, 2, 0, 0, 0), (0, 0, 0, 0, 0), (0, 0, 100, 0, 0), (22, 188, 0, 116, 436), (18, 10, 0, 0, 0), (0, 0, 1, 0, 0), (17, 11, 0, 0, 0), (0, 0, 0, 0, 0), (22, 186, 0, 90, 439), (2, 0, 0, 0, 0), (6, 11, 2, 26, 383), (1, 1, 0, 0, 0), (1, 2, 0, 0, 0), (21, 11, 1, 176, 1303), (25, 0, 0, 0, 0)]
def z_p_X11_setQuota : List Nat := [0, 1, 4, 7, 8, 9, 11, 14, 17, 18, 21, 22, 25, 26, 29, 30, 31, 34, 35]
def z_c_X11_rule : List zI := [(1, 1, 0, 0, 0), (0, 0, 8, 0, 0), (22, 189, 0, 179, 641), (22, 185, 0, 109, 582), (1, 2, 0, 0, 0), (0, 0, 0, 0, 0), (0, 0, 8, 0, 0), (22, 188, 0, 116, 436), (18, 21, 0, 0, 0), (1, 3, 0, 0, 0), (0, 0, 0, 0, 0), (0, 0, 8, 0, 0), (22, 188, 0, 116, 436), (18, 21, 0, 0, 0), (1, 4, 0, 0, 0), (0, 0, 0, 0, 0), (0, 0, 8, 0, 0), (22, 188, 0, 116, 436), (18, 21, 0, 0, 0), (0, 0, 1, 0, 0), (17, 22, 0, 0, 0), (0, 0, 0, 0, 0), (22, 186, 0, 90, 439), (1, 5, 0, 0, 0), (0, 0, 0, 0, 0), (0, 0, 15, 0, 0), (22, 188, 0, 116, 436), (18, 35, 0, 0, 0), (1, 6, 0, 0, 0), (0, 0, 0, 0, 0), (0, 0, 2, 0, 0), (22, 188, 0, 116, 436), (18, 35, 0, 0, 0), (0, 0, 1, 0, 0), (17, 36, 0, 0, 0), (0, 0, 0, 0, 0), (22, 186, 0, 90, 439), (2, 0, 0, 0, 0), (6, 11, 3, 33, 384), (1, 1, 0, 0, 0), (21, 61, 6, 183, 693), (22, 187, 0, 98, 525), (2, 0, 0, 0, 0), (6, 11, 3, 33, 384), (1, 1, 0, 0, 0), (1, 2, 0, 0, 0), (1, 3, 0, 0, 0), (1, 4, 0, 0, 0), (1, 5, 0, 0, 0), (1, 6, 0, 0, 0), (21, 62, 6, 186, 697), (25, 0, 0, 0, 0)]
def z_p_X11_rule : List Nat := [0, 1, 3, 6, 9, 10, 11, 13, 16, 19, 20, 21, 23, 26, 29, 31, 32, 34, 37, 40, 41, 44, 45, 48, 50, 51, 53, 56, 59, 61, 62, 63, 66, 69, 70, 73, 74, 77, 78, 81, 82, 85, 88, 89, 92, 93, 94, 95, 97, 99, 101, 104, 105]
def z_c_X11_setPolicies : List zI := [(1, 1, 0, 0, 0), (0, 0, 0, 0, 0), (0, 0, 2, 0, 0), (22, 188, 0, 116, 436), (3, 4, 0, 0, 0), (1, 4, 0, 0, 0), (18, 12, 0, 0, 0), (1, 2, 0, 0, 0), (1, 1, 0, 0, 0), (22, 69, 0, 193, 716), (22, 189, 0, 179, 641), (18, 14, 0, 0, 0), (0, 0, 1, 0, 0), (17, 15, 0, 0, 0), (0, 0, 0, 0, 0), (22, 185, 0, 109, 582), (1, 4, 0, 0, 0), (18, 25, 0, 0, 0), (1, 3, 0, 0, 0), (0, 0, 0, 0, 0), (0, 0, 255, 0, 0), (22, 188, 0, 116, 436), (18, 25, 0, 0, 0), (0, 0, 1, 0, 0), (17, 26, 0, 0, 0), (0, 0, 0, 0, 0), (22, 186, 0, 90, 439), (2, 0, 0, 0, 0), (6, 11, 3, 33, 384), (1, 1, 0, 0, 0), (1, 2, 0, 0, 0), (1, 3, 0, 0, 0), (21, 70, 6, 196, 719), (25, 0, 0, 0, 0)]
def z_p_X11_setPolicies : List Nat := [0, 1, 2, 3, 6, 8, 10, 13, 14, 15, 18, 21, 24, 25, 28, 29, 32, 34, 37, 38, 39, 42, 45, 48, 49, 52, 53, 56, 57, 60, 61, 62, 63, 66, 67]
def z_c_X11_alias : List zI := [(1, 1, 0, 0, 0), (0, 0, 3, 0, 0), (22, 189, 0, 179, 641), (18, 15, 0, 0, 0), (1, 2, 0, 0, 0), (0, 0, 6, 0, 0), (22, 189, 0, 179, 641), (18, 15, 0, 0, 0), (1, 3, 0, 0, 0), (0, 0, (-1), 0, 0), (0, 0, 7, 0, 0), (22, 188, 0, 116, 436), (18, 15, 0, 0, 0), (0, 0, 1, 0, 0), (17, 16, 0, 0, 0), (0, 0, 0, 0, 0), (22, 185, 0, 109, 582), (2, 0, 0, 0, 0), (6, 11, 3, 33, 384), (1, 1, 0, 0, 0), (1, 2, 0, 0, 0), (1, 3, 0, 0, 0), (21, 71, 6, 200, 705), (25, 0, 0, 0, 0)]
def z_p_X11_alias : List Nat := [0, 1, 2, 5, 8, 9, 11, 14, 17, 18, 19, 21, 24, 27, 28, 31, 32, 35, 36, 39, 40, 41, 42, 45, 46]
def z_c_X11_merge : List zI := [(1, 1, 0, 0, 0), (0, 0, 8, 0, 0), (22, 189, 0, 179, 641), (18, 10, 0, 0, 0), (1, 2, 0, 0, 0), (0, 0, 8, 0, 0), (22, 189, 0, 179, 641), (18, 10, 0, 0, 0), (0, 0, 1, 0, 0), (17, 11, 0, 0, 0), (0, 0, 0, 0, 0), (22, 185, 0, 109, 582), (1, 1, 0, 0, 0), (1, 2, 0, 0, 0), (19, 17, 0, 0, 0), (0, 0, 1, 0, 0), (17, 18, 0, 0, 0), (0, 0, 0, 0, 0), (22, 186, 0, 90, 439), (2, 0, 0, 0, 0), (6, 11, 4, 40, 385), (1, 1, 0, 0, 0), (1, 2, 0, 0, 0), (21, 126, 10, 203, 1393), (2, 0, 0, 0, 0), (6, 11, 3, 33, 384), (1, 1, 0, 0, 0), (1, 2, 0, 0, 0), (21, 75, 6, 206, 1397), (2, 0, 0, 0, 0), (6, 11, 3, 33, 384), (1, 1, 0, 0, 0), (1, 2, 0, 0, 0), (21, 74, 6, 209, 1402), (25, 0, 0, 0, 0)]
def z_p_X11_merge : List Nat := [0, 1, 3, 6, 9, 10, 12, 15, 18, 19, 22, 23, 26, 27, 28, 31, 32, 35, 36, 39, 40, 43, 44, 45, 48, 49, 52, 53, 54, 57, 58, 61, 62, 63, 66, 67]
def z_c_X11_member : List zI := [(1, 1, 0, 0, 0), (0, 0, 4, 0, 0), (22, 189, 0, 179, 641), (18, 14, 0, 0, 0), (1, 3, 0, 0, 0), (1, 2, 0, 0, 0), (18, 9, 0, 0, 0), (0, 0, 4, 0, 0), (17, 10, 0, 0, 0), (0, 0, 8, 0, 0), (22, 189, 0, 179, 641), (18, 14, 0, 0, 0), (0, 0, 1, 0, 0), (17, 15, 0, 0, 0), (0, 0, 0, 0, 0), (22, 185, 0, 109, 582), (1, 2, 0, 0, 0), (18, 25, 0, 0, 0), (2, 0, 0, 0, 0), (6, 11, 3, 33, 384), (1, 1, 0, 0, 0), (1, 3, 0, 0, 0), (1, 4, 0, 0, 0), (21, 77, 6, 212, 1378), (17, 31, 0, 0, 0), (2, 0, 0, 0, 0), (6, 11, 3, 33, 384), (1, 1, 0, 0, 0), (1, 3, 0, 0, 0), (1, 4, 0, 0, 0), (21, 76, 6, 216, 1385), (26, 0, 0, 0, 0)]
def z_p_X11_member : List Nat := [0, 1, 2, 5, 8, 9, 10, 13, 14, 17, 19, 22, 25, 26, 29, 30, 33, 34, 37, 38, 41, 42, 43, 45, 48, 51, 52, 55, 56, 57, 59, 62, 63]
def z_c_X11_login : List zI := [(1, 1, 0, 0, 0), (0, 0, 3, 0, 0), (22, 189, 0, 179, 641), (18, 10, 0, 0, 0), (1, 2, 0, 0, 0), (0, 0, 6, 0, 0), (22, 189, 0, 179, 641), (18, 10, 0, 0, 0), (0, 0, 1, 0, 0), (17, 11, 0, 0, 0), (0, 0, 0, 0, 0), (22, 185, 0, 109, 582), (2, 0, 0, 0, 0), (6, 11, 3, 33, 384), (1, 1, 0, 0, 0), (1, 2, 0, 0, 0), (21, 72, 6, 219, 903), (3, 3, 0, 0, 0), (2, 0, 0, 0, 0), (6, 11, 0, 10, 381), (21, 85, 7, 119, 559), (18, 24, 1, 0, 0), (0, 0, (-2), 0, 0), (25, 0, 0, 0, 0), (1, 3, 0, 0, 0), (0, 0, (-1), 0, 0), (19, 29, 1, 0, 0), (0, 0, (-6), 0, 0), (25, 0, 0, 0, 0), (2, 0, 0, 0, 0), (6, 11, 4, 40, 385), (21, 114, 10, 222, 907), (18, 35, 0, 0, 0), (0, 0, (-11), 0, 0), (25, 0, 0, 0, 0), (2, 0, 0, 0, 0), (6, 11, 4, 40, 385), (0, 0, (-1), 0, 0), (0, 0, 0, 0, 0), (1, 3, 0, 0, 0), (2, 0, 0, 0, 0), (6, 11, 3, 33, 384), (1, 1, 0, 0, 0), (21, 73, 6, 225, 911), (21, 122, 10, 228, 915), (3, 4, 0, 0, 0), (2, 0, 0, 0, 0), (6, 11, 4, 40, 385), (1, 4, 0, 0, 0), (2, 0, 0, 0, 0), (6, 11, 11, 142, 392), (0, 0, 24, 0, 0), (0, 0, 72, 0, 0), (21, 123, 10, 232, 919), (2, 0, 0, 0, 0), (6, 11, 4, 40, 385), (1, 4, 0, 0, 0), (0, 0, (-1), 0, 0), (0, 0, 15, 0, 0), (0, 0, 0, 0, 0), (21, 124, 10, 235, 923), (1, 4, 0, 0, 0), (25, 0, 0, 0, 0)]
def z_p_X11_login : List Nat := [0, 1, 2, 5, 8, 9, 11, 14, 17, 18, 21, 22, 25, 26, 29, 30, 31, 34, 35, 36, 39, 42, 45, 47, 48, 49, 50, 53, 55, 56, 57, 60, 63, 66, 68, 69, 70, 73, 74, 75, 76, 77, 80, 81, 84, 87, 89, 90, 93, 95, 96, 99, 101, 103, 106, 107, 110, 112, 113, 115, 116, 119, 121, 122]
def z_c_X11_token : List zI := [(1, 2, 0, 0, 0), (0, 0, 0, 0, 0), (0, 0, 2, 0, 0), (22, 188, 0, 116, 436), (18, 12, 0, 0, 0), (1, 3, 0, 0, 0), (0, 0, 0, 0, 0), (0, 0, 255, 0, 0), (22, 188, 0, 116, 436), (18, 12, 0, 0, 0), (0, 0, 1, 0, 0), (17, 13, 0, 0, 0), (0, 0, 0, 0, 0), (22, 186, 0, 90, 439), (1, 4, 0, 0, 0), (0, 0, 1, 0, 0), (0, 0, 100, 0, 0), (22, 188, 0, 116, 436), (18, 26, 0, 0, 0), (1, 5, 0, 0, 0), (1, 4, 0, 0, 0), (0, 0, 200, 0, 0), (22, 188, 0, 116, 436), (18, 26, 0, 0, 0), (0, 0, 1, 0, 0), (17, 27, 0, 0, 0), (0, 0, 0, 0, 0), (22, 186, 0, 90, 439), (1, 6, 0, 0, 0), (0, 0, (-1), 0, 0), (19, 36, 0, 0, 0), (1, 6, 0, 0, 0), (0, 0, 1, 0, 0), (0, 0, 20, 0, 0), (22, 188, 0, 116, 436), (18, 43, 0, 0, 0), (1, 7, 0, 0, 0), (0, 0, 1, 0, 0), (0, 0, 15, 0, 0), (22, 188, 0, 116, 436), (18, 43, 0, 0, 0), (0, 0, 1, 0, 0), (17, 44, 0, 0, 0), (0, 0, 0, 0, 0), (22, 186, 0, 90, 439), (2, 0, 0, 0, 0), (1, 1, 0, 0, 0), (1, 3, 0, 0, 0), (21, 199, 11, 239, 943), (3, 9, 0, 0, 0), (1, 9, 0, 0, 0), (18, 54, 0, 0, 0), (1, 9, 0, 0, 0), (25, 0, 0, 0, 0), (2, 0, 0, 0, 0), (6, 11, 4, 40, 385), (1, 1, 0, 0, 0), (1, 2, 0, 0, 0), (1, 1, 0, 0, 0), (0, 0, (-1), 0, 0), (19, 63, 1, 0, 0), (0, 0, (-1), 0, 0), (17, 67, 0, 0, 0), (2, 0, 0, 0, 0), (6, 11, 4, 40, 385), (1, 1, 0, 0, 0), (21, 118, 10, 242, 802), (1, 3, 0, 0, 0), (21, 122, 10, 228, 915), (3, 10, 0, 0, 0), (2, 0, 0, 0, 0), (6, 11, 4, 40, 385), (1, 10, 0, 0, 0), (2, 0, 0, 0, 0), (6, 11, 11, 142, 392), (1, 4, 0, 0, 0), (1, 5, 0, 0, 0), (21, 123, 10, 232, 919), (2, 0, 0, 0, 0), (6, 11, 4, 40, 385), (1, 10, 0, 0, 0), (1, 6, 0, 0, 0), (1, 7, 0, 0, 0), (1, 8, 0, 0, 0), (21, 124, 10, 235, 923), (1, 10, 0, 0, 0), (25, 0, 0, 0, 0)]
def z_p_X11_token : List Nat := [0, 1, 2, 3, 6, 9, 10, 11, 14, 17, 20, 21, 24, 25, 28, 30, 31, 33, 36, 39, 41, 43, 46, 49, 52, 53, 56, 57, 60, 62, 63, 66, 68, 69, 71, 74, 77, 79, 80, 82, 85, 88, 89, 92, 93, 96, 97, 98, 99, 102, 104, 106, 109, 111, 112, 113, 116, 117, 118, 119, 120, 123, 124, 127, 128, 131, 132, 135, 136, 139, 141, 142, 145, 147, 148, 151, 153, 155, 158, 159, 162, 164, 166, 168, 170, 173, 175, 176]
def z_c_X11_renewToken : List zI := [(2, 0, 0, 0, 0), (6, 11, 4, 40, 385), (1, 1, 0, 0, 0), (21, 115, 10, 244, 865), (22, 185, 0, 109, 582), (1, 2, 0, 0, 0), (0, 0, 1, 0, 0), (0, 0, 100, 0, 0), (22, 188, 0, 116, 436), (22, 186, 0, 90, 439), (2, 0, 0, 0, 0), (6, 11, 0, 10, 381), (21, 85, 7, 119, 559), (18, 16, 1, 0, 0), (0, 0, (-2), 0, 0), (25, 0, 0, 0, 0), (2, 0, 0, 0, 0), (6, 11, 4, 40, 385), (1, 1, 0, 0, 0), (21, 116, 10, 247, 931), (18, 26, 0, 0, 0), (2, 0, 0, 0, 0), (6, 11, 4, 40, 385), (1, 1, 0, 0, 0), (21, 117, 10, 250, 947), (18, 28, 0, 0, 0), (0, 0, (-4), 0, 0), (25, 0, 0, 0, 0), (2, 0, 0, 0, 0), (6, 11, 4, 40, 385), (1, 1, 0, 0, 0), (2, 0, 0, 0, 0), (6, 11, 11, 142, 392), (1, 2, 0, 0, 0), (21, 125, 10, 253, 970), (25, 0, 0, 0, 0)]
def z_p_X11_renewToken : List Nat := [0, 1, 4, 5, 8, 11, 12, 13, 15, 18, 21, 22, 25, 28, 31, 33, 34, 35, 38, 39, 42, 45, 46, 49, 50, 53, 56, 58, 59, 60, 63, 64, 65, 68, 69, 72, 73]
def z_c_X11_revokeToken : List zI := [(2, 0, 0, 0, 0), (6, 11, 4, 40, 385), (1, 1, 0, 0, 0), (21, 115, 10, 244, 865), (22, 185, 0, 109, 582), (2, 0, 0, 0, 0), (1, 1, 0, 0, 0), (21, 200, 11, 256, 879), (25, 0, 0, 0, 0)]
def z_p_X11_revokeToken : List Nat := [0, 1, 4, 5, 8, 11, 12, 13, 16, 17]
def z_c_X11_uses : List zI := [(2, 0, 0, 0, 0), (6, 11, 4, 40, 385), (1, 1, 0, 0, 0), (21, 115, 10, 244, 865), (22, 185, 0, 109, 582), (2, 0, 0, 0, 0), (6, 11, 4, 40, 385), (1, 1, 0, 0, 0), (21, 121, 10, 259, 875), (25, 0, 0, 0, 0)]
def z_p_X11_uses : List Nat := [0, 1, 4, 5, 8, 11, 12, 15, 16, 19, 20]
def z_c_X11_lives : List zI := [(2, 0, 0, 0, 0), (6, 11, 4, 40, 385), (1, 1, 0, 0, 0), (21, 115, 10, 244, 865), (22, 185, 0, 109, 582), (2, 0, 0, 0, 0), (6, 11, 4, 40, 385), (1, 1, 0, 0, 0), (21, 116, 10, 247, 931), (26, 0, 0, 0, 0)]
def z_p_X11_lives : List Nat := [0, 1, 4, 5, 8, 11, 12, 15, 16, 19, 20]
def z_c_X11_read : List zI := [(1, 2, 0, 0, 0), (22, 192, 0, 268, 738), (18, 11, 0, 0, 0), (1, 3, 0, 0, 0), (22, 191, 0, 262, 741), (18, 11, 0, 0, 0), (1, 4, 0, 0, 0), (22, 193, 0, 271, 744), (18, 11, 0, 0, 0), (0, 0, 1, 0, 0), (17, 12, 0, 0, 0), (0, 0, 0, 0, 0), (22, 186, 0, 90, 439), (2, 0, 0, 0, 0), (1, 1, 0, 0, 0), (1, 2, 0, 0, 0), (1, 3, 0, 0, 0), (0, 0, 1, 0, 0), (21, 196, 11, 274, 747), (3, 5, 0, 0, 0), (1, 5, 0, 0, 0), (18, 28, 1, 0, 0), (2, 0, 0, 0, 0), (1, 1, 0, 0, 0), (1, 3, 0, 0, 0), (1, 4, 0, 0, 0), (21, 202, 11, 277, 836), (17, 29, 0, 0, 0), (1, 5, 0, 0, 0), (3, 6, 0, 0, 0), (2, 0, 0, 0, 0), (1, 1, 0, 0, 0), (1, 3, 0, 0, 0), (0, 0, 1, 0, 0), (1, 6, 0, 0, 0), (21, 197, 11, 280, 861), (25, 0, 0, 0, 0)]
def z_p_X11_read : List Nat := [0, 1, 4, 7, 8, 11, 14, 16, 19, 22, 23, 26, 27, 30, 31, 32, 33, 34, 35, 38, 40, 42, 45, 46, 47, 48, 50, 53, 56, 58, 60, 61, 62, 63, 64, 66, 69, 70]
def z_c_X11_write : List zI := [(1, 2, 0, 0, 0), (22, 192, 0, 268, 738), (18, 8, 0, 0, 0), (1, 3, 0, 0, 0), (22, 191, 0, 262, 741), (18, 8, 0, 0, 0), (0, 0, 1, 0, 0), (17, 9, 0, 0, 0), (0, 0, 0, 0, 0), (22, 186, 0, 90, 439), (1, 4, 0, 0, 0), (0, 0, 0, 0, 0), (0, 0, 9999, 0, 0), (22, 188, 0, 116, 436), (18, 22, 0, 0, 0), (1, 5, 0, 0, 0), (0, 0, (-1), 0, 0), (0, 0, 9999, 0, 0), (22, 188, 0, 116, 436), (18, 22, 0, 0, 0), (0, 0, 1, 0, 0), (17, 23, 0, 0, 0), (0, 0, 0, 0, 0), (22, 186, 0, 90, 439), (2, 0, 0, 0, 0), (1, 1, 0, 0, 0), (1, 2, 0, 0, 0), (1, 3, 0, 0, 0), (0, 0, 2, 0, 0), (21, 196, 11, 274, 747), (3, 6, 0, 0, 0), (1, 6, 0, 0, 0), (18, 39, 1, 0, 0), (2, 0, 0, 0, 0), (1, 3, 0, 0, 0), (1, 4, 0, 0, 0), (1, 5, 0, 0, 0), (21, 203, 11, 283, 984), (17, 40, 0, 0, 0), (1, 6, 0, 0, 0), (3, 7, 0, 0, 0), (2, 0, 0, 0, 0), (1, 1, 0, 0, 0), (1, 3, 0, 0, 0), (0, 0, 2, 0, 0), (1, 7, 0, 0, 0), (21, 197, 11, 280, 861), (25, 0, 0, 0, 0)]
def z_p_X11_write : List Nat := [0, 1, 4, 7, 8, 11, 14, 15, 18, 19, 22, 24, 25, 28, 31, 34, 36, 37, 40, 43, 46, 47, 50, 51, 54, 55, 56, 57, 58, 59, 62, 64, 66, 69, 70, 71, 73, 75, 78, 81, 83, 85, 86, 87, 88, 89, 91, 94, 95]
def z_c_X11_erase : List zI := [(1, 2, 0, 0, 0), (22, 192, 0, 268, 738), (18, 11, 0, 0, 0), (1, 3, 0, 0, 0), (22, 191, 0, 262, 741), (18, 11, 0, 0, 0), (1, 4, 0, 0, 0), (22, 193, 0, 271, 744), (18, 11, 0, 0, 0), (0, 0, 1, 0, 0), (17, 12, 0, 0, 0), (0, 0, 0, 0, 0), (22, 186, 0, 90, 439), (1, 5, 0, 0, 0), (0, 0, 0, 0, 0), (0, 0, 2, 0, 0), (22, 188, 0, 116, 436), (22, 186, 0, 90, 439), (2, 0, 0, 0, 0), (1, 1, 0, 0, 0), (1, 2, 0, 0, 0), (1, 3, 0, 0, 0), (0, 0, 4, 0, 0), (21, 196, 11, 274, 747), (3, 6, 0, 0, 0), (1, 6, 0, 0, 0), (18, 33, 1, 0, 0), (2, 0, 0, 0, 0), (1, 3, 0, 0, 0), (1, 4, 0, 0, 0), (1, 5, 0, 0, 0), (21, 204, 11, 286, 1053), (17, 34, 0, 0, 0), (1, 6, 0, 0, 0), (3, 7, 0, 0, 0), (2, 0, 0, 0, 0), (1, 1, 0, 0, 0), (1, 3, 0, 0, 0), (0, 0, 4, 0, 0), (1, 7, 0, 0, 0), (21, 197, 11, 280, 861), (25, 0, 0, 0, 0)]
def z_p_X11_erase : List Nat := [0, 1, 4, 7, 8, 11, 14, 16, 19, 22, 23, 26, 27, 30, 32, 33, 34, 37, 40, 41, 42, 43, 44, 45, 48, 50, 52, 55, 56, 57, 59, 61, 64, 67, 69, 71, 72, 73, 74, 75, 77, 80, 81]
def z_c_X11_keyOf : List zI := [(1, 1, 0, 0, 0), (22, 191, 0, 262, 741), (18, 8, 0, 0, 0), (1, 2, 0, 0, 0), (22, 193, 0, 271, 744), (18, 8, 0, 0, 0), (0, 0, 1, 0, 0), (17, 9, 0, 0, 0), (0, 0, 0, 0, 0), (22, 186, 0, 90, 439), (2, 0, 0, 0, 0), (6, 11, 6, 54, 387), (1, 1, 0, 0, 0), (1, 2, 0, 0, 0), (21, 107, 9, 289, 1032), (3, 3, 0, 0, 0), (1, 3, 0, 0, 0), (0, 0, (-1), 0, 0), (19, 25, 0, 0, 0), (2, 0, 0, 0, 0), (6, 11, 6, 54, 387), (1, 3, 0, 0, 0), (21, 105, 9, 292, 1033), (0, 0, 2, 0, 0), (19, 27, 1, 0, 0), (0, 0, (-1), 0, 0), (17, 31, 0, 0, 0), (2, 0, 0, 0, 0), (6, 11, 6, 54, 387), (1, 3, 0, 0, 0), (21, 106, 9, 295, 1037), (25, 0, 0, 0, 0)]
def z_p_X11_keyOf : List Nat := [0, 1, 4, 7, 8, 11, 14, 15, 18, 19, 22, 23, 26, 27, 28, 31, 32, 33, 34, 37, 38, 41, 42, 45, 46, 49, 50, 53, 54, 57, 58, 61, 62]
def z_c_X11_setSystem : List zI := [(1, 1, 0, 0, 0), (0, 0, 3, 0, 0), (22, 189, 0, 179, 641), (22, 185, 0, 109, 582), (1, 2, 0, 0, 0), (0, 0, 0, 0, 0), (0, 0, 2, 0, 0), (22, 188, 0, 116, 436), (22, 186, 0, 90, 439), (2, 0, 0, 0, 0), (6, 11, 5, 47, 386), (1, 1, 0, 0, 0), (1, 2, 0, 0, 0), (21, 48, 5, 298, 1142), (25, 0, 0, 0, 0)]
def z_p_X11_setSystem : List Nat := [0, 1, 2, 5, 8, 9, 10, 11, 14, 17, 18, 21, 22, 23, 26, 27]
def z_c_X11_issue : List zI := [(1, 2, 0, 0, 0), (22, 192, 0, 268, 738), (18, 8, 0, 0, 0), (1, 3, 0, 0, 0), (22, 191, 0, 262, 741), (18, 8, 0, 0, 0), (0, 0, 1, 0, 0), (17, 9, 0, 0, 0), (0, 0, 0, 0, 0), (22, 186, 0, 90, 439), (1, 4, 0, 0, 0), (0, 0, 1, 0, 0), (0, 0, 50, 0, 0), (22, 188, 0, 116, 436), (18, 22, 0, 0, 0), (1, 5, 0, 0, 0), (1, 4, 0, 0, 0), (0, 0, 100, 0, 0), (22, 188, 0, 116, 436), (18, 22, 0, 0, 0), (0, 0, 1, 0, 0), (17, 23, 0, 0, 0), (0, 0, 0, 0, 0), (22, 186, 0, 90, 439), (2, 0, 0, 0, 0), (1, 1, 0, 0, 0), (1, 2, 0, 0, 0), (1, 3, 0, 0, 0), (0, 0, 8, 0, 0), (21, 196, 11, 274, 747), (3, 6, 0, 0, 0), (1, 6, 0, 0, 0), (18, 40, 1, 0, 0), (2, 0, 0, 0, 0), (1, 1, 0, 0, 0), (1, 3, 0, 0, 0), (1, 4, 0, 0, 0), (1, 5, 0, 0, 0), (21, 205, 11, 301, 1072), (17, 41, 0, 0, 0), (1, 6, 0, 0, 0), (3, 7, 0, 0, 0), (2, 0, 0, 0, 0), (1, 1, 0, 0, 0), (1, 3, 0, 0, 0), (0, 0, 8, 0, 0), (1, 7, 0, 0, 0), (21, 197, 11, 280, 861), (25, 0, 0, 0, 0)]
def z_p_X11_issue : List Nat := [0, 1, 4, 7, 8, 11, 14, 15, 18, 19, 22, 24, 25, 27, 30, 33, 35, 37, 39, 42, 45, 46, 49, 50, 53, 54, 55, 56, 57, 59, 62, 64, 66, 69, 70, 71, 72, 74, 76, 79, 82, 84, 86, 87, 88, 89, 91, 93, 96, 97]
def z_c_X11_renew : List zI := [(2, 0, 0, 0, 0), (6, 11, 5, 47, 386), (1, 1, 0, 0, 0), (21, 43, 5, 304, 1105), (22, 185, 0, 109, 582), (1, 2, 0, 0, 0), (0, 0, 1, 0, 0), (0, 0, 50, 0, 0), (22, 188, 0, 116, 436), (22, 186, 0, 90, 439), (2, 0, 0, 0, 0), (6, 11, 0, 10, 381), (21, 85, 7, 119, 559), (18, 16, 1, 0, 0), (0, 0, (-2), 0, 0), (25, 0, 0, 0, 0), (2, 0, 0, 0, 0), (6, 11, 5, 47, 386), (1, 1, 0, 0, 0), (21, 45, 5, 305, 1117), (18, 23, 0, 0, 0), (0, 0, (-7), 0, 0), (25, 0, 0, 0, 0), (2, 0, 0, 0, 0), (6, 11, 5, 47, 386), (1, 1, 0, 0, 0), (2, 0, 0, 0, 0), (6, 11, 11, 142, 392), (1, 2, 0, 0, 0), (13, 0, 0, 0, 0), (2, 0, 0, 0, 0), (6, 11, 4, 40, 385), (2, 0, 0, 0, 0), (6, 11, 5, 47, 386), (1, 1, 0, 0, 0), (21, 44, 5, 308, 1125), (21, 120, 10, 311, 1092), (21, 52, 5, 314, 1129), (25, 0, 0, 0, 0)]
def z_p_X11_renew : List Nat := [0, 1, 4, 5, 8, 11, 12, 13, 15, 18, 21, 22, 25, 28, 31, 33, 34, 35, 38, 39, 42, 45, 47, 48, 49, 52, 53, 54, 57, 58, 59, 60, 63, 64, 67, 68, 71, 74, 77, 78]
def z_c_X11_revoke : List zI := [(1, 1, 0, 0, 0), (22, 190, 0, 163, 638), (18, 11, 0, 0, 0), (1, 2, 0, 0, 0), (0, 0, (-1), 0, 0), (19, 9, 0, 0, 0), (1, 2, 0, 0, 0), (22, 190, 0, 163, 638), (18, 11, 0, 0, 0), (0, 0, 1, 0, 0), (17, 12, 0, 0, 0), (0, 0, 0, 0, 0), (22, 186, 0, 90, 439), (1, 1, 0, 0, 0), (0, 0, 36, 0, 0), (13, 2, 0, 0, 0), (1, 2, 0, 0, 0), (0, 0, (-1), 0, 0), (19, 21, 1, 0, 0), (0, 0, 0, 0, 0), (17, 24, 0, 0, 0), (1, 2, 0, 0, 0), (0, 0, 6, 0, 0), (13, 2, 0, 0, 0), (13, 0, 0, 0, 0), (3, 3, 0, 0, 0), (1, 2, 0, 0, 0), (0, 0, (-1), 0, 0), (19, 31, 1, 0, 0), (0, 0, 36, 0, 0), (17, 32, 0, 0, 0), (0, 0, 6, 0, 0), (3, 4, 0, 0, 0), (2, 0, 0, 0, 0), (6, 11, 5, 47, 386), (1, 3, 0, 0, 0), (1, 3, 0, 0, 0), (1, 4, 0, 0, 0), (13, 0, 0, 0, 0), (2, 0, 0, 0, 0), (6, 11, 11, 142, 392), (21, 53, 5, 315, 669), (25, 0, 0, 0, 0)]
def z_p_X11_revoke : List Nat := [0, 1, 4, 7, 8, 9, 12, 13, 16, 19, 20, 23, 24, 27, 28, 30, 31, 32, 33, 36, 37, 40, 41, 43, 44, 45, 46, 47, 48, 51, 53, 56, 58, 60, 61, 64, 65, 66, 68, 69, 70, 73, 76, 77]
def z_c_X11_stateOf : List zI := [(2, 0, 0, 0, 0), (6, 11, 5, 47, 386), (1, 1, 0, 0, 0), (21, 43, 5, 304, 1105), (22, 185, 0, 109, 582), (2, 0, 0, 0, 0), (6, 11, 5, 47, 386), (1, 1, 0, 0, 0), (21, 45, 5, 305, 1117), (25, 0, 0, 0, 0)]
def z_p_X11_stateOf : List Nat := [0, 1, 4, 5, 8, 11, 12, 15, 16, 19, 20]
def z_c_X11_endOf : List zI := [(2, 0, 0, 0, 0), (6, 11, 5, 47, 386), (1, 1, 0, 0, 0), (21, 43, 5, 304, 1105), (22, 185, 0, 109, 582), (2, 0, 0, 0, 0), (6, 11, 5, 47, 386), (1, 1, 0, 0, 0), (21, 46, 5, 318, 1109), (25, 0, 0, 0, 0)]
def z_p_X11_endOf : List Nat := [0, 1, 4, 5, 8, 11, 12, 15, 16, 19, 20]
def z_c_X11_credentials : List zI := [(1, 1, 0, 0, 0), (0, 0, 3, 0, 0), (22, 189, 0, 179, 641), (22, 185, 0, 109, 582), (2, 0, 0, 0, 0), (6, 11, 5, 47, 386), (1, 1, 0, 0, 0), (21, 47, 5, 321, 1441), (25, 0, 0, 0, 0)]
def z_p_X11_credentials : List Nat := [0, 1, 2, 5, 8, 9, 12, 13, 16, 17]
def z_c_X11_credentialsAnew : List zI := [(1, 1, 0, 0, 0), (0, 0, 3, 0, 0), (22, 189, 0, 179, 641), (22, 185, 0, 109, 582), (2, 0, 0, 0, 0), (6, 11, 5, 47, 386), (1, 1, 0, 0, 0), (21, 58, 5, 324, 1449), (25, 0, 0, 0, 0)]
def z_p_X11_credentialsAnew : List Nat := [0, 1, 2, 5, 8, 9, 12, 13, 16, 17]
def z_c_X11_wrap : List zI := [(1, 2, 0, 0, 0), (22, 192, 0, 268, 738), (18, 11, 0, 0, 0), (1, 3, 0, 0, 0), (22, 191, 0, 262, 741), (18, 11, 0, 0, 0), (1, 4, 0, 0, 0), (22, 193, 0, 271, 744), (18, 11, 0, 0, 0), (0, 0, 1, 0, 0), (17, 12, 0, 0, 0), (0, 0, 0, 0, 0), (22, 186, 0, 90, 439), (2, 0, 0, 0, 0), (1, 1, 0, 0, 0), (1, 2, 0, 0, 0), (1, 3, 0, 0, 0), (0, 0, 1, 0, 0), (21, 196, 11, 274, 747), (3, 5, 0, 0, 0), (1, 5, 0, 0, 0), (18, 28, 1, 0, 0), (2, 0, 0, 0, 0), (1, 1, 0, 0, 0), (1, 3, 0, 0, 0), (1, 4, 0, 0, 0), (21, 202, 11, 277, 836), (17, 29, 0, 0, 0), (1, 5, 0, 0, 0), (3, 6, 0, 0, 0), (1, 6, 0, 0, 0), (18, 39, 2, 0, 0), (2, 0, 0, 0, 0), (6, 11, 8, 68, 389), (1, 6, 0, 0, 0), (2, 0, 0, 0, 0), (6, 11, 11, 142, 392), (21, 23, 3, 327, 1153), (3, 6, 0, 0, 0), (2, 0, 0, 0, 0), (1, 1, 0, 0, 0), (1, 3, 0, 0, 0), (0, 0, 1, 0, 0), (1, 6, 0, 0, 0), (21, 197, 11, 280, 861), (25, 0, 0, 0, 0)]
def z_p_X11_wrap : List Nat := [0, 1, 4, 7, 8, 11, 14, 16, 19, 22, 23, 26, 27, 30, 31, 32, 33, 34, 35, 38, 40, 42, 45, 46, 47, 48, 50, 53, 56, 58, 60, 62, 65, 66, 69, 71, 72, 75, 78, 80, 81, 82, 83, 84, 86, 89, 90]
def z_c_X11_open : List zI := [(2, 0, 0, 0, 0), (6, 11, 8, 68, 389), (1, 1, 0, 0, 0), (21, 22, 3, 330, 1161), (22, 185, 0, 109, 582), (2, 0, 0, 0, 0), (6, 11, 0, 10, 381), (21, 85, 7, 119, 559), (18, 16, 0, 0, 0), (2, 0, 0, 0, 0), (6, 11, 8, 68, 389), (1, 1, 0, 0, 0), (2, 0, 0, 0, 0), (6, 11, 11, 142, 392), (21, 24, 3, 333, 1165), (17, 17, 0, 0, 0), (0, 0, (-2), 0, 0), (25, 0, 0, 0, 0)]
def z_p_X11_open : List Nat := [0, 1, 4, 5, 8, 11, 12, 15, 18, 21, 22, 25, 26, 27, 30, 33, 36, 38, 39]
def z_c_X11_approve : List zI := [(2, 0, 0, 0, 0), (6, 11, 8, 68, 389), (1, 3, 0, 0, 0), (21, 26, 3, 336, 1176), (22, 185, 0, 109, 582), (1, 2, 0, 0, 0), (22, 192, 0, 268, 738), (22, 186, 0, 90, 439), (2, 0, 0, 0, 0), (6, 11, 8, 68, 389), (1, 3, 0, 0, 0), (21, 28, 3, 339, 1180), (3, 4, 0, 0, 0), (2, 0, 0, 0, 0), (1, 1, 0, 0, 0), (1, 2, 0, 0, 0), (1, 4, 0, 0, 0), (0, 0, 8, 0, 0), (21, 196, 11, 274, 747), (3, 5, 0, 0, 0), (1, 5, 0, 0, 0), (18, 27, 1, 0, 0), (2, 0, 0, 0, 0), (1, 1, 0, 0, 0), (1, 3, 0, 0, 0), (21, 206, 11, 342, 1184), (17, 28, 0, 0, 0), (1, 5, 0, 0, 0), (3, 6, 0, 0, 0), (2, 0, 0, 0, 0), (1, 1, 0, 0, 0), (1, 4, 0, 0, 0), (0, 0, 8, 0, 0), (1, 6, 0, 0, 0), (21, 197, 11, 280, 861), (25, 0, 0, 0, 0)]
def z_p_X11_approve : List Nat := [0, 1, 4, 5, 8, 11, 12, 15, 18, 19, 22, 23, 26, 28, 29, 30, 31, 33, 35, 38, 40, 42, 45, 46, 47, 48, 51, 54, 56, 58, 59, 60, 62, 64, 66, 69, 70]
def z_c_X11_takeUp : List zI := [(2, 0, 0, 0, 0), (6, 11, 8, 68, 389), (1, 3, 0, 0, 0), (21, 26, 3, 336, 1176), (22, 185, 0, 109, 582), (1, 2, 0, 0, 0), (22, 192, 0, 268, 738), (22, 186, 0, 90, 439), (2, 0, 0, 0, 0), (6, 11, 8, 68, 389), (1, 3, 0, 0, 0), (21, 28, 3, 339, 1180), (3, 4, 0, 0, 0), (2, 0, 0, 0, 0), (1, 1, 0, 0, 0), (1, 2, 0, 0, 0), (1, 4, 0, 0, 0), (0, 0, 1, 0, 0), (21, 196, 11, 274, 747), (3, 5, 0, 0, 0), (1, 5, 0, 0, 0), (18, 27, 1, 0, 0), (2, 0, 0, 0, 0), (1, 1, 0, 0, 0), (1, 3, 0, 0, 0), (21, 207, 11, 345, 1210), (17, 28, 0, 0, 0), (1, 5, 0, 0, 0), (3, 6, 0, 0, 0), (2, 0, 0, 0, 0), (1, 1, 0, 0, 0), (1, 4, 0, 0, 0), (0, 0, 1, 0, 0), (1, 6, 0, 0, 0), (21, 197, 11, 280, 861), (25, 0, 0, 0, 0)]
def z_p_X11_takeUp : List Nat := [0, 1, 4, 5, 8, 11, 12, 15, 18, 19, 22, 23, 26, 28, 29, 30, 31, 33, 34, 37, 39, 41, 44, 45, 46, 47, 50, 53, 55, 57, 58, 59, 61, 62, 64, 67, 68]
def z_c_X11_cases : List zI := [(2, 0, 0, 0, 0), (6, 11, 8, 68, 389), (21, 25, 3, 348, 962), (25, 0, 0, 0, 0)]
def z_p_X11_cases : List Nat := [0, 1, 4, 7, 8]
def z_c_X11_certify : List zI := [(1, 2, 0, 0, 0), (22, 192, 0, 268, 738), (18, 13, 0, 0, 0), (1, 3, 0, 0, 0), (22, 191, 0, 262, 741), (18, 13, 0, 0, 0), (1, 4, 0, 0, 0), (0, 0, 1, 0, 0), (0, 0, 200, 0, 0), (22, 188, 0, 116, 436), (18, 13, 0, 0, 0), (0, 0, 1, 0, 0), (17, 14, 0, 0, 0), (0, 0, 0, 0, 0), (22, 186, 0, 90, 439), (2, 0, 0, 0, 0), (1, 1, 0, 0, 0), (1, 2, 0, 0, 0), (1, 3, 0, 0, 0), (0, 0, 8, 0, 0), (21, 196, 11, 274, 747), (3, 5, 0, 0, 0), (1, 5, 0, 0, 0), (18, 29, 1, 0, 0), (2, 0, 0, 0, 0), (1, 3, 0, 0, 0), (1, 4, 0, 0, 0), (21, 208, 11, 351, 1230), (17, 30, 0, 0, 0), (1, 5, 0, 0, 0), (3, 6, 0, 0, 0), (2, 0, 0, 0, 0), (1, 1, 0, 0, 0), (1, 3, 0, 0, 0), (0, 0, 8, 0, 0), (1, 6, 0, 0, 0), (21, 197, 11, 280, 861), (25, 0, 0, 0, 0)]
def z_p_X11_certify : List Nat := [0, 1, 4, 7, 8, 11, 14, 16, 17, 20, 23, 26, 27, 30, 31, 34, 35, 36, 37, 38, 40, 43, 45, 47, 50, 51, 52, 54, 57, 60, 62, 64, 65, 66, 67, 69, 71, 74, 75]
def z_c_X11_revokeCertificate : List zI := [(2, 0, 0, 0, 0), (6, 11, 9, 75, 390), (1, 1, 0, 0, 0), (21, 1, 0, 354, 1263), (22, 185, 0, 109, 582), (2, 0, 0, 0, 0), (6, 11, 9, 75, 390), (1, 1, 0, 0, 0), (21, 5, 0, 355, 1295), (26, 0, 0, 0, 0)]
def z_p_X11_revokeCertificate : List Nat := [0, 1, 4, 5, 8, 11, 12, 15, 16, 19, 20]
def z_c_X11_publish : List zI := [(2, 0, 0, 0, 0), (6, 11, 9, 75, 390), (2, 0, 0, 0, 0), (6, 11, 11, 142, 392), (21, 6, 0, 358, 1255), (25, 0, 0, 0, 0)]
def z_p_X11_publish : List Nat := [0, 1, 4, 5, 8, 11, 12]
def z_c_X11_isGood : List zI := [(2, 0, 0, 0, 0), (6, 11, 9, 75, 390), (1, 1, 0, 0, 0), (21, 1, 0, 354, 1263), (22, 185, 0, 109, 582), (2, 0, 0, 0, 0), (6, 11, 9, 75, 390), (1, 1, 0, 0, 0), (2, 0, 0, 0, 0), (6, 11, 11, 142, 392), (21, 7, 0, 361, 1242), (26, 0, 0, 0, 0)]
def z_p_X11_isGood : List Nat := [0, 1, 4, 5, 8, 11, 12, 15, 16, 17, 20, 23, 24]
def z_c_X11_issuerOf : List zI := [(2, 0, 0, 0, 0), (6, 11, 9, 75, 390), (1, 1, 0, 0, 0), (21, 1, 0, 354, 1263), (22, 185, 0, 109, 582), (2, 0, 0, 0, 0), (6, 11, 9, 75, 390), (1, 1, 0, 0, 0), (21, 2, 0, 364, 1287), (25, 0, 0, 0, 0)]
def z_p_X11_issuerOf : List Nat := [0, 1, 4, 5, 8, 11, 12, 15, 16, 19, 20]
def z_c_X11_setSink : List zI := [(1, 1, 0, 0, 0), (0, 0, 3, 0, 0), (22, 189, 0, 179, 641), (22, 185, 0, 109, 582), (1, 4, 0, 0, 0), (0, 0, 1, 0, 0), (0, 0, 1000, 0, 0), (22, 188, 0, 116, 436), (22, 186, 0, 90, 439), (2, 0, 0, 0, 0), (6, 11, 10, 82, 391), (1, 1, 0, 0, 0), (1, 2, 0, 0, 0), (1, 3, 0, 0, 0), (1, 4, 0, 0, 0), (21, 100, 8, 367, 1359), (26, 0, 0, 0, 0)]
def z_p_X11_setSink : List Nat := [0, 1, 2, 5, 8, 10, 11, 14, 17, 20, 21, 24, 25, 26, 27, 29, 32, 33]
def z_c_X11_hash : List zI := [(1, 1, 0, 0, 0), (0, 0, 3, 0, 0), (22, 189, 0, 179, 641), (22, 185, 0, 109, 582), (2, 0, 0, 0, 0), (6, 11, 10, 82, 391), (1, 1, 0, 0, 0), (21, 99, 8, 370, 1367), (25, 0, 0, 0, 0)]
def z_p_X11_hash : List Nat := [0, 1, 2, 5, 8, 9, 12, 13, 16, 17]
def z_c_X11_ship : List zI := [(1, 1, 0, 0, 0), (0, 0, 1, 0, 0), (0, 0, 100, 0, 0), (22, 188, 0, 116, 436), (22, 186, 0, 90, 439), (2, 0, 0, 0, 0), (6, 11, 7, 61, 388), (1, 1, 0, 0, 0), (21, 17, 2, 373, 1344), (25, 0, 0, 0, 0)]
def z_p_X11_ship : List Nat := [0, 1, 2, 4, 7, 10, 11, 14, 15, 18, 19]
def z_c_X11_farRead : List zI := [(1, 2, 0, 0, 0), (22, 191, 0, 262, 741), (18, 8, 0, 0, 0), (1, 3, 0, 0, 0), (22, 193, 0, 271, 744), (18, 8, 0, 0, 0), (0, 0, 1, 0, 0), (17, 9, 0, 0, 0), (0, 0, 0, 0, 0), (22, 186, 0, 90, 439), (2, 0, 0, 0, 0), (6, 11, 4, 40, 385), (1, 1, 0, 0, 0), (21, 115, 10, 244, 865), (18, 20, 0, 0, 0), (2, 0, 0, 0, 0), (6, 11, 4, 40, 385), (1, 1, 0, 0, 0), (21, 116, 10, 247, 931), (18, 22, 1, 0, 0), (0, 0, (-4), 0, 0), (25, 0, 0, 0, 0), (2, 0, 0, 0, 0), (1, 1, 0, 0, 0), (1, 2, 0, 0, 0), (21, 198, 11, 265, 794), (3, 4, 0, 0, 0), (1, 4, 0, 0, 0), (0, 0, 1, 0, 0), (13, 5, 0, 0, 0), (18, 33, 1, 0, 0), (0, 0, (-6), 0, 0), (25, 0, 0, 0, 0), (1, 4, 0, 0, 0), (0, 0, 16, 0, 0), (19, 38, 2, 0, 0), (0, 0, (-10), 0, 0), (25, 0, 0, 0, 0), (2, 0, 0, 0, 0), (6, 11, 7, 61, 388), (21, 14, 2, 376, 1045), (1, 2, 0, 0, 0), (1, 3, 0, 0, 0), (2, 0, 0, 0, 0), (6, 11, 1, 19, 382), (21, 38, 4, 149, 844), (21, 110, 9, 379, 848), (25, 0, 0, 0, 0)]
def z_p_X11_farRead : List Nat := [0, 1, 4, 7, 8, 11, 14, 15, 18, 19, 22, 23, 26, 27, 30, 33, 34, 37, 38, 41, 44, 46, 47, 48, 49, 50, 53, 55, 57, 58, 59, 62, 64, 65, 67, 69, 72, 74, 75, 76, 79, 82, 83, 84, 85, 88, 91, 94, 95]
def z_c_X11_pass : List zI := [(1, 1, 0, 0, 0), (0, 0, 1, 0, 0), (0, 0, 50, 0, 0), (22, 188, 0, 116, 436), (22, 186, 0, 90, 439), (0, 0, 0, 0, 0), (3, 2, 0, 0, 0), (1, 2, 0, 0, 0), (1, 1, 0, 0, 0), (19, 14, 3, 0, 0), (2, 0, 0, 0, 0), (21, 210, 11, 382, 1410), (5, 2, 1, 0, 0), (17, 7, 0, 0, 0), (2, 0, 0, 0, 0), (6, 11, 11, 142, 392), (25, 0, 0, 0, 0)]
def z_p_X11_pass : List Nat := [0, 1, 2, 4, 7, 10, 11, 12, 13, 14, 17, 18, 21, 24, 27, 28, 31, 32]
def z_c_X11_demandIndex : List zI := [(1, 0, 0, 0, 0), (18, 6, 1, 0, 0), (29, 0, 387, 385, 585), (99, 0, 0, 0, 0), (99, 0, 0, 0, 0), (99, 0, 0, 0, 0), (27, 0, 0, 0, 0)]
def z_p_X11_demandIndex : List Nat := [0, 1, 4, 7, 8, 11, 12, 13]
def z_c_X11_demandArgument : List zI := [(1, 0, 0, 0, 0), (18, 6, 1, 0, 0), (29, 1, 390, 388, 442), (99, 0, 0, 0, 0), (99, 0, 0, 0, 0), (99, 0, 0, 0, 0), (27, 0, 0, 0, 0)]
def z_p_X11_demandArgument : List Nat := [0, 1, 4, 7, 8, 11, 12, 13]
def z_c_X11_demandState : List zI := [(1, 0, 0, 0, 0), (18, 6, 1, 0, 0), (29, 2, 393, 391, 528), (99, 0, 0, 0, 0), (99, 0, 0, 0, 0), (99, 0, 0, 0, 0), (27, 0, 0, 0, 0)]
def z_p_X11_demandState : List Nat := [0, 1, 4, 7, 8, 11, 12, 13]
def z_c_X11_isWithin : List zI := [(1, 0, 0, 0, 0), (1, 1, 0, 0, 0), (19, 8, 2, 0, 0), (1, 0, 0, 0, 0), (1, 2, 0, 0, 0), (19, 8, 4, 0, 0), (0, 0, 1, 0, 0), (17, 9, 0, 0, 0), (0, 0, 0, 0, 0), (26, 0, 0, 0, 0)]
def z_p_X11_isWithin : List Nat := [0, 1, 2, 5, 6, 7, 10, 11, 14, 15, 16]
def z_c_X11_isIndex : List zI := [(1, 0, 0, 0, 0), (18, 7, 2, 0, 0), (1, 0, 0, 0, 0), (1, 1, 0, 0, 0), (19, 7, 3, 0, 0), (0, 0, 1, 0, 0), (17, 8, 0, 0, 0), (0, 0, 0, 0, 0), (26, 0, 0, 0, 0)]
def z_p_X11_isIndex : List Nat := [0, 1, 4, 5, 6, 9, 10, 13, 14, 15]
def z_c_X11_isSegment : List zI := [(1, 0, 0, 0, 0), (0, 0, 6, 0, 0), (22, 189, 0, 179, 641), (26, 0, 0, 0, 0)]
def z_p_X11_isSegment : List Nat := [0, 1, 3, 6, 7]
def z_c_X11_isPath : List zI := [(1, 0, 0, 0, 0), (0, 0, 216, 0, 0), (22, 189, 0, 179, 641), (26, 0, 0, 0, 0)]
def z_p_X11_isPath : List Nat := [0, 1, 4, 7, 8]
def z_c_X11_isPlace : List zI := [(1, 0, 0, 0, 0), (0, 0, 4, 0, 0), (22, 189, 0, 179, 641), (26, 0, 0, 0, 0)]
def z_p_X11_isPlace : List Nat := [0, 1, 2, 5, 6]
def z_c_X11_isVersion : List zI := [(1, 0, 0, 0, 0), (0, 0, 0, 0, 0), (0, 0, 9999, 0, 0), (22, 188, 0, 116, 436), (26, 0, 0, 0, 0)]
def z_p_X11_isVersion : List Nat := [0, 1, 2, 5, 8, 9]
def z_c_X11_isDealing : List zI := [(1, 0, 0, 0, 0), (0, 0, 0, 0, 0), (0, 0, 65535, 394, 435), (22, 188, 0, 116, 436), (18, 17, 0, 0, 0), (1, 1, 0, 0, 0), (0, 0, 1, 0, 0), (0, 0, 6, 0, 0), (22, 188, 0, 116, 436), (18, 17, 0, 0, 0), (1, 2, 0, 0, 0), (0, 0, 1, 0, 0), (1, 1, 0, 0, 0), (22, 188, 0, 116, 436), (18, 17, 0, 0, 0), (0, 0, 1, 0, 0), (17, 18, 0, 0, 0), (0, 0, 0, 0, 0), (26, 0, 0, 0, 0)]
def z_p_X11_isDealing : List Nat := [0, 1, 2, 5, 8, 11, 12, 13, 15, 18, 21, 22, 23, 24, 27, 30, 31, 34, 35, 36]
def z_c_X11_firstOf : List zI := [(1, 0, 0, 0, 0), (0, 0, 36, 0, 0), (13, 3, 0, 0, 0), (25, 0, 0, 0, 0)]
def z_p_X11_firstOf : List Nat := [0, 1, 3, 4, 5]
def z_c_X11_admit : List zI := [(2, 0, 0, 0, 0), (6, 11, 0, 10, 381), (21, 85, 7, 119, 559), (18, 6, 1, 0, 0), (0, 0, (-2), 0, 0), (25, 0, 0, 0, 0), (2, 0, 0, 0, 0), (6, 11, 10, 82, 391), (21, 101, 8, 395, 751), (18, 12, 0, 0, 0), (0, 0, (-3), 0, 0), (25, 0, 0, 0, 0), (2, 0, 0, 0, 0), (6, 11, 4, 40, 385), (1, 1, 0, 0, 0), (1, 2, 0, 0, 0), (21, 127, 10, 398, 771), (18, 20, 1, 0, 0), (0, 0, (-4), 0, 0), (25, 0, 0, 0, 0), (2, 0, 0, 0, 0), (6, 11, 4, 40, 385), (1, 1, 0, 0, 0), (21, 128, 10, 401, 783), (2, 0, 0, 0, 0), (6, 11, 2, 26, 383), (1, 3, 0, 0, 0), (22, 195, 0, 404, 787), (21, 12, 1, 407, 790), (18, 32, 1, 0, 0), (0, 0, (-5), 0, 0), (25, 0, 0, 0, 0), (2, 0, 0, 0, 0), (1, 1, 0, 0, 0), (1, 3, 0, 0, 0), (21, 198, 11, 265, 794), (1, 4, 0, 0, 0), (13, 5, 0, 0, 0), (18, 41, 1, 0, 0), (0, 0, (-6), 0, 0), (17, 42, 0, 0, 0), (0, 0, 0, 0, 0), (25, 0, 0, 0, 0)]
def z_p_X11_admit : List Nat := [0, 1, 4, 7, 10, 12, 13, 14, 17, 20, 23, 25, 26, 27, 30, 31, 32, 35, 38, 40, 41, 42, 45, 46, 49, 50, 53, 54, 57, 60, 63, 65, 66, 67, 68, 69, 72, 74, 75, 78, 80, 83, 84, 85]
def z_c_X11_conclude : List zI := [(1, 4, 0, 0, 0), (0, 0, (-2), 0, 0), (19, 6, 0, 0, 0), (1, 4, 0, 0, 0), (0, 0, (-3), 0, 0), (19, 8, 1, 0, 0), (1, 4, 0, 0, 0), (25, 0, 0, 0, 0), (2, 0, 0, 0, 0), (6, 11, 4, 40, 385), (1, 1, 0, 0, 0), (21, 115, 10, 244, 865), (3, 5, 0, 0, 0), (2, 0, 0, 0, 0), (6, 11, 10, 82, 391), (1, 5, 0, 0, 0), (18, 19, 0, 0, 0), (1, 1, 0, 0, 0), (17, 20, 0, 0, 0), (0, 0, 0, 0, 0), (1, 2, 0, 0, 0), (1, 3, 0, 0, 0), (1, 4, 0, 0, 0), (21, 102, 8, 410, 866), (1, 5, 0, 0, 0), (18, 35, 0, 0, 0), (2, 0, 0, 0, 0), (6, 11, 4, 40, 385), (1, 1, 0, 0, 0), (21, 121, 10, 259, 875), (18, 35, 1, 0, 0), (2, 0, 0, 0, 0), (1, 1, 0, 0, 0), (21, 200, 11, 256, 879), (16, 0, 0, 0, 0), (1, 4, 0, 0, 0), (25, 0, 0, 0, 0)]
def z_p_X11_conclude : List Nat := [0, 2, 4, 7, 9, 11, 14, 16, 17, 18, 21, 22, 25, 27, 28, 31, 33, 36, 37, 40, 41, 42, 43, 45, 48, 50, 53, 54, 57, 58, 61, 64, 65, 66, 69, 70, 72, 73]
def z_c_X11_rightsAt : List zI := [(2, 0, 0, 0, 0), (6, 11, 3, 33, 384), (2, 0, 0, 0, 0), (6, 11, 4, 40, 385), (1, 1, 0, 0, 0), (21, 119, 10, 413, 798), (2, 0, 0, 0, 0), (6, 11, 4, 40, 385), (1, 1, 0, 0, 0), (21, 118, 10, 242, 802), (1, 2, 0, 0, 0), (21, 64, 6, 416, 806), (25, 0, 0, 0, 0)]
def z_p_X11_rightsAt : List Nat := [0, 1, 4, 5, 8, 9, 12, 13, 16, 17, 20, 21, 24, 25]
def z_c_X11_refusalOfChild : List zI := [(2, 0, 0, 0, 0), (6, 11, 0, 10, 381), (21, 85, 7, 119, 559), (18, 6, 1, 0, 0), (0, 0, (-2), 0, 0), (25, 0, 0, 0, 0), (1, 1, 0, 0, 0), (0, 0, (-1), 0, 0), (19, 37, 0, 0, 0), (2, 0, 0, 0, 0), (6, 11, 4, 40, 385), (1, 1, 0, 0, 0), (21, 115, 10, 244, 865), (18, 24, 0, 0, 0), (2, 0, 0, 0, 0), (6, 11, 4, 40, 385), (1, 1, 0, 0, 0), (21, 116, 10, 247, 931), (18, 24, 0, 0, 0), (2, 0, 0, 0, 0), (6, 11, 4, 40, 385), (1, 1, 0, 0, 0), (21, 117, 10, 250, 947), (18, 26, 0, 0, 0), (0, 0, (-4), 0, 0), (25, 0, 0, 0, 0), (1, 2, 0, 0, 0), (2, 0, 0, 0, 0), (6, 11, 4, 40, 385), (1, 1, 0, 0, 0), (21, 119, 10, 413, 798), (0, 0, (-1), 0, 0), (13, 7, 0, 0, 0), (13, 5, 0, 0, 0), (18, 37, 0, 0, 0), (0, 0, (-6), 0, 0), (25, 0, 0, 0, 0), (2, 0, 0, 0, 0), (6, 11, 4, 40, 385), (21, 114, 10, 222, 907), (18, 43, 0, 0, 0), (0, 0, (-11), 0, 0), (17, 44, 0, 0, 0), (0, 0, 0, 0, 0), (25, 0, 0, 0, 0)]
def z_p_X11_refusalOfChild : List Nat := [0, 1, 4, 7, 10, 12, 13, 14, 15, 18, 19, 22, 23, 26, 29, 30, 33, 34, 37, 40, 41, 44, 45, 48, 51, 53, 54, 55, 56, 59, 60, 63, 64, 65, 66, 69, 71, 72, 73, 76, 79, 82, 84, 87, 88, 89]
def z_c_X11_letDie : List zI := [(2, 0, 0, 0, 0), (6, 11, 4, 40, 385), (1, 1, 0, 0, 0), (21, 129, 10, 419, 883), (3, 2, 0, 0, 0), (2, 0, 0, 0, 0), (6, 11, 5, 47, 386), (2, 0, 0, 0, 0), (6, 11, 4, 40, 385), (2, 0, 0, 0, 0), (6, 11, 11, 142, 392), (21, 54, 5, 422, 891), (1, 2, 0, 0, 0), (25, 0, 0, 0, 0)]
def z_p_X11_letDie : List Nat := [0, 1, 4, 5, 8, 9, 10, 13, 14, 17, 18, 21, 24, 25, 26]
def z_c_X11_numberAt : List zI := [(2, 0, 0, 0, 0), (6, 11, 2, 26, 383), (1, 1, 0, 0, 0), (22, 195, 0, 404, 787), (21, 8, 1, 166, 644), (18, 8, 0, 0, 0), (0, 0, (-13), 0, 0), (25, 0, 0, 0, 0), (2, 0, 0, 0, 0), (6, 11, 6, 54, 387), (1, 1, 0, 0, 0), (1, 2, 0, 0, 0), (2, 0, 0, 0, 0), (6, 11, 1, 19, 382), (21, 38, 4, 149, 844), (21, 110, 9, 379, 848), (25, 0, 0, 0, 0)]
def z_p_X11_numberAt : List Nat := [0, 1, 4, 5, 8, 11, 14, 16, 17, 18, 21, 22, 23, 24, 27, 30, 33, 34]
def z_c_X11_readOrAsk : List zI := [(2, 0, 0, 0, 0), (1, 2, 0, 0, 0), (1, 3, 0, 0, 0), (21, 201, 11, 426, 840), (3, 4, 0, 0, 0), (2, 0, 0, 0, 0), (1, 1, 0, 0, 0), (1, 2, 0, 0, 0), (21, 198, 11, 265, 794), (0, 0, 16, 0, 0), (13, 3, 0, 0, 0), (3, 5, 0, 0, 0), (1, 4, 0, 0, 0), (18, 16, 2, 0, 0), (1, 5, 0, 0, 0), (18, 18, 1, 0, 0), (1, 4, 0, 0, 0), (17, 25, 0, 0, 0), (2, 0, 0, 0, 0), (6, 11, 8, 68, 389), (1, 1, 0, 0, 0), (1, 2, 0, 0, 0), (1, 3, 0, 0, 0), (1, 5, 0, 0, 0), (21, 32, 3, 429, 857), (25, 0, 0, 0, 0)]
def z_p_X11_readOrAsk : List Nat := [0, 1, 2, 3, 6, 8, 9, 10, 11, 14, 16, 17, 19, 21, 24, 26, 29, 31, 34, 35, 38, 39, 40, 41, 43, 46, 47]
def z_c_X11_writeAt : List zI := [(2, 0, 0, 0, 0), (6, 11, 2, 26, 383), (1, 1, 0, 0, 0), (22, 195, 0, 404, 787), (21, 8, 1, 166, 644), (18, 8, 0, 0, 0), (0, 0, (-13), 0, 0), (25, 0, 0, 0, 0), (1, 3, 0, 0, 0), (0, 0, (-1), 0, 0), (19, 19, 0, 0, 0), (1, 3, 0, 0, 0), (2, 0, 0, 0, 0), (6, 11, 6, 54, 387), (1, 1, 0, 0, 0), (21, 104, 9, 432, 988), (19, 19, 0, 0, 0), (0, 0, (-8), 0, 0), (25, 0, 0, 0, 0), (2, 0, 0, 0, 0), (6, 11, 1, 19, 382), (2, 0, 0, 0, 0), (6, 11, 11, 142, 392), (21, 41, 4, 435, 992), (3, 4, 0, 0, 0), (2, 0, 0, 0, 0), (6, 11, 7, 61, 388), (1, 1, 0, 0, 0), (1, 2, 0, 0, 0), (1, 4, 0, 0, 0), (21, 15, 2, 438, 1000), (2, 0, 0, 0, 0), (6, 11, 6, 54, 387), (1, 1, 0, 0, 0), (1, 2, 0, 0, 0), (1, 4, 0, 0, 0), (21, 108, 9, 441, 1024), (25, 0, 0, 0, 0)]
def z_p_X11_writeAt : List Nat := [0, 1, 4, 5, 8, 11, 14, 16, 17, 18, 19, 22, 23, 24, 27, 28, 31, 34, 36, 37, 38, 41, 42, 45, 48, 50, 51, 54, 55, 56, 58, 61, 62, 65, 66, 67, 69, 72, 73]
def z_c_X11_eraseAt : List zI := [(2, 0, 0, 0, 0), (6, 11, 2, 26, 383), (1, 1, 0, 0, 0), (22, 195, 0, 404, 787), (21, 8, 1, 166, 644), (18, 8, 0, 0, 0), (0, 0, (-13), 0, 0), (25, 0, 0, 0, 0), (2, 0, 0, 0, 0), (6, 11, 6, 54, 387), (1, 1, 0, 0, 0), (1, 2, 0, 0, 0), (21, 107, 9, 289, 1032), (3, 4, 0, 0, 0), (1, 4, 0, 0, 0), (0, 0, (-1), 0, 0), (19, 23, 0, 0, 0), (2, 0, 0, 0, 0), (6, 11, 6, 54, 387), (1, 4, 0, 0, 0), (21, 105, 9, 292, 1033), (0, 0, 2, 0, 0), (19, 25, 1, 0, 0), (0, 0, (-7), 0, 0), (25, 0, 0, 0, 0), (2, 0, 0, 0, 0), (6, 11, 7, 61, 388), (1, 1, 0, 0, 0), (1, 2, 0, 0, 0), (18, 35, 1, 0, 0), (2, 0, 0, 0, 0), (6, 11, 6, 54, 387), (1, 1, 0, 0, 0), (21, 104, 9, 432, 988), (17, 36, 0, 0, 0), (1, 2, 0, 0, 0), (1, 3, 0, 0, 0), (21, 16, 2, 443, 1057), (2, 0, 0, 0, 0), (6, 11, 6, 54, 387), (1, 4, 0, 0, 0), (1, 3, 0, 0, 0), (21, 109, 9, 446, 1061), (25, 0, 0, 0, 0)]
def z_p_X11_eraseAt : List Nat := [0, 1, 4, 5, 8, 11, 14, 16, 17, 18, 21, 22, 23, 26, 28, 30, 31, 34, 35, 38, 40, 43, 44, 47, 49, 50, 51, 54, 55, 56, 59, 60, 63, 64, 67, 70, 71, 72, 75, 76, 79, 81, 82, 85, 86]
def z_c_X11_issueAt : List zI := [(1, 2, 0, 0, 0), (22, 195, 0, 404, 787), (3, 5, 0, 0, 0), (2, 0, 0, 0, 0), (6, 11, 2, 26, 383), (1, 5, 0, 0, 0), (21, 8, 1, 166, 644), (0, 0, 1, 0, 0), (19, 11, 0, 0, 0), (0, 0, (-13), 0, 0), (25, 0, 0, 0, 0), (2, 0, 0, 0, 0), (6, 11, 5, 47, 386), (21, 42, 5, 449, 1076), (18, 17, 0, 0, 0), (0, 0, (-11), 0, 0), (25, 0, 0, 0, 0), (2, 0, 0, 0, 0), (6, 11, 2, 26, 383), (1, 5, 0, 0, 0), (21, 9, 1, 450, 1080), (3, 6, 0, 0, 0), (2, 0, 0, 0, 0), (6, 11, 5, 47, 386), (1, 6, 0, 0, 0), (21, 49, 5, 453, 1084), (18, 29, 1, 0, 0), (0, 0, (-12), 0, 0), (25, 0, 0, 0, 0), (2, 0, 0, 0, 0), (6, 11, 5, 47, 386), (1, 1, 0, 0, 0), (1, 2, 0, 0, 0), (1, 6, 0, 0, 0), (21, 50, 5, 456, 1088), (3, 7, 0, 0, 0), (2, 0, 0, 0, 0), (6, 11, 5, 47, 386), (1, 7, 0, 0, 0), (2, 0, 0, 0, 0), (6, 11, 11, 142, 392), (1, 3, 0, 0, 0), (13, 0, 0, 0, 0), (2, 0, 0, 0, 0), (6, 11, 4, 40, 385), (1, 1, 0, 0, 0), (21, 120, 10, 311, 1092), (24, 0, 0, 458, 1096), (2, 0, 0, 0, 0), (6, 11, 11, 142, 392), (1, 4, 0, 0, 0), (13, 0, 0, 0, 0), (21, 51, 5, 463, 1097), (1, 7, 0, 0, 0), (25, 0, 0, 0, 0)]
def z_p_X11_issueAt : List Nat := [0, 1, 4, 6, 7, 10, 12, 15, 16, 19, 21, 22, 23, 26, 29, 32, 34, 35, 36, 39, 41, 44, 46, 47, 50, 52, 55, 58, 60, 61, 62, 65, 66, 67, 69, 72, 74, 75, 78, 80, 81, 84, 85, 86, 87, 90, 91, 94, 97, 98, 101, 103, 104, 107, 109, 110]
def z_c_X11_approveCase : List zI := [(2, 0, 0, 0, 0), (6, 11, 8, 68, 389), (1, 2, 0, 0, 0), (21, 30, 3, 465, 1188), (18, 7, 1, 0, 0), (0, 0, (-7), 0, 0), (25, 0, 0, 0, 0), (2, 0, 0, 0, 0), (6, 11, 8, 68, 389), (1, 2, 0, 0, 0), (21, 27, 3, 468, 1192), (3, 3, 0, 0, 0), (2, 0, 0, 0, 0), (6, 11, 4, 40, 385), (1, 1, 0, 0, 0), (21, 118, 10, 242, 802), (3, 4, 0, 0, 0), (1, 1, 0, 0, 0), (1, 3, 0, 0, 0), (19, 29, 0, 0, 0), (1, 4, 0, 0, 0), (0, 0, (-1), 0, 0), (19, 29, 0, 0, 0), (1, 4, 0, 0, 0), (2, 0, 0, 0, 0), (6, 11, 4, 40, 385), (1, 3, 0, 0, 0), (21, 118, 10, 242, 802), (19, 31, 1, 0, 0), (0, 0, (-4), 0, 0), (25, 0, 0, 0, 0), (2, 0, 0, 0, 0), (6, 11, 8, 68, 389), (1, 2, 0, 0, 0), (1, 4, 0, 0, 0), (21, 33, 3, 471, 1196), (25, 0, 0, 0, 0)]
def z_p_X11_approveCase : List Nat := [0, 1, 4, 5, 8, 11, 13, 14, 15, 18, 19, 22, 23, 24, 27, 28, 31, 33, 34, 35, 38, 40, 41, 44, 46, 47, 50, 51, 54, 57, 59, 60, 61, 64, 65, 67, 70, 71]
def z_c_X11_takeUpCase : List zI := [(2, 0, 0, 0, 0), (6, 11, 8, 68, 389), (1, 2, 0, 0, 0), (21, 30, 3, 465, 1188), (18, 7, 1, 0, 0), (0, 0, (-7), 0, 0), (25, 0, 0, 0, 0), (1, 1, 0, 0, 0), (2, 0, 0, 0, 0), (6, 11, 8, 68, 389), (1, 2, 0, 0, 0), (21, 27, 3, 468, 1192), (19, 15, 0, 0, 0), (0, 0, (-4), 0, 0), (25, 0, 0, 0, 0), (2, 0, 0, 0, 0), (6, 11, 8, 68, 389), (1, 2, 0, 0, 0), (21, 31, 3, 474, 1214), (18, 22, 1, 0, 0), (0, 0, (-10), 0, 0), (25, 0, 0, 0, 0), (2, 0, 0, 0, 0), (2, 0, 0, 0, 0), (6, 11, 8, 68, 389), (1, 2, 0, 0, 0), (21, 28, 3, 339, 1180), (2, 0, 0, 0, 0), (6, 11, 8, 68, 389), (1, 2, 0, 0, 0), (21, 29, 3, 477, 1218), (21, 201, 11, 426, 840), (3, 3, 0, 0, 0), (1, 3, 0, 0, 0), (18, 39, 2, 0, 0), (2, 0, 0, 0, 0), (6, 11, 8, 68, 389), (1, 2, 0, 0, 0), (21, 34, 3, 480, 1222), (1, 3, 0, 0, 0), (25, 0, 0, 0, 0)]
def z_p_X11_takeUpCase : List Nat := [0, 1, 4, 5, 8, 11, 13, 14, 15, 16, 19, 20, 23, 26, 28, 29, 30, 33, 34, 37, 40, 42, 43, 44, 45, 48, 49, 52, 53, 56, 57, 60, 63, 64, 65, 68, 69, 72, 73, 76, 77, 78]
def z_c_X11_certifyAt : List zI := [(2, 0, 0, 0, 0), (6, 11, 2, 26, 383), (1, 1, 0, 0, 0), (22, 195, 0, 404, 787), (21, 8, 1, 166, 644), (0, 0, 2, 0, 0), (19, 9, 0, 0, 0), (0, 0, (-13), 0, 0), (25, 0, 0, 0, 0), (2, 0, 0, 0, 0), (6, 11, 9, 75, 390), (21, 0, 0, 482, 1234), (18, 15, 0, 0, 0), (0, 0, (-11), 0, 0), (25, 0, 0, 0, 0), (2, 0, 0, 0, 0), (6, 11, 9, 75, 390), (1, 1, 0, 0, 0), (21, 3, 0, 483, 1238), (3, 3, 0, 0, 0), (1, 3, 0, 0, 0), (0, 0, (-1), 0, 0), (19, 32, 0, 0, 0), (2, 0, 0, 0, 0), (6, 11, 9, 75, 390), (1, 3, 0, 0, 0), (2, 0, 0, 0, 0), (6, 11, 11, 142, 392), (21, 7, 0, 361, 1242), (18, 32, 1, 0, 0), (0, 0, (-7), 0, 0), (25, 0, 0, 0, 0), (2, 0, 0, 0, 0), (6, 11, 9, 75, 390), (1, 1, 0, 0, 0), (1, 3, 0, 0, 0), (2, 0, 0, 0, 0), (6, 11, 11, 142, 392), (1, 2, 0, 0, 0), (13, 0, 0, 0, 0), (21, 4, 0, 486, 1246), (25, 0, 0, 0, 0)]
def z_p_X11_certifyAt : List Nat := [0, 1, 4, 5, 8, 11, 12, 15, 17, 18, 19, 22, 25, 28, 30, 31, 32, 35, 36, 39, 40, 41, 42, 45, 46, 49, 50, 51, 54, 57, 60, 62, 63, 64, 67, 68, 69, 70, 73, 74, 75, 78, 79]
def z_c_X11_clearBehindUnmounting : List zI := [(1, 1, 0, 0, 0), (0, 0, 36, 0, 0), (13, 2, 0, 0, 0), (3, 2, 0, 0, 0), (1, 2, 0, 0, 0), (0, 0, 36, 0, 0), (13, 0, 0, 0, 0), (3, 3, 0, 0, 0), (2, 0, 0, 0, 0), (6, 11, 6, 54, 387), (1, 2, 0, 0, 0), (1, 3, 0, 0, 0), (21, 111, 9, 487, 656), (2, 0, 0, 0, 0), (6, 11, 7, 61, 388), (1, 2, 0, 0, 0), (1, 3, 0, 0, 0), (21, 18, 2, 490, 660), (2, 0, 0, 0, 0), (6, 11, 5, 47, 386), (1, 2, 0, 0, 0), (1, 3, 0, 0, 0), (2, 0, 0, 0, 0), (6, 11, 11, 142, 392), (21, 53, 5, 315, 669), (16, 0, 0, 0, 0), (2, 0, 0, 0, 0), (6, 11, 8, 68, 389), (1, 2, 0, 0, 0), (1, 3, 0, 0, 0), (21, 35, 3, 493, 681), (27, 0, 0, 0, 0)]
def z_p_X11_clearBehindUnmounting : List Nat := [0, 1, 3, 4, 5, 6, 8, 9, 10, 11, 14, 15, 16, 19, 20, 23, 24, 25, 28, 29, 32, 33, 34, 35, 38, 41, 42, 43, 46, 47, 48, 51, 52]
def z_c_X11_beginHour : List zI := [(2, 0, 0, 0, 0), (14, 0, 0, 0, 0), (6, 11, 11, 142, 392), (0, 0, 1, 0, 0), (13, 0, 0, 0, 0), (7, 11, 11, 142, 392), (2, 0, 0, 0, 0), (6, 11, 2, 26, 383), (21, 13, 1, 496, 1414), (0, 0, 0, 0, 0), (3, 1, 0, 0, 0), (1, 1, 0, 0, 0), (2, 0, 0, 0, 0), (6, 11, 4, 40, 385), (21, 113, 10, 499, 1418), (19, 34, 3, 0, 0), (2, 0, 0, 0, 0), (6, 11, 4, 40, 385), (1, 1, 0, 0, 0), (21, 116, 10, 247, 931), (18, 32, 0, 0, 0), (2, 0, 0, 0, 0), (6, 11, 4, 40, 385), (1, 1, 0, 0, 0), (21, 120, 10, 311, 1092), (2, 0, 0, 0, 0), (6, 11, 11, 142, 392), (19, 32, 1, 0, 0), (2, 0, 0, 0, 0), (1, 1, 0, 0, 0), (21, 200, 11, 256, 879), (16, 0, 0, 0, 0), (5, 1, 1, 0, 0), (17, 11, 0, 0, 0), (2, 0, 0, 0, 0), (6, 11, 5, 47, 386), (2, 0, 0, 0, 0), (6, 11, 11, 142, 392), (21, 55, 5, 502, 1422), (2, 0, 0, 0, 0), (6, 11, 5, 47, 386), (2, 0, 0, 0, 0), (6, 11, 11, 142, 392), (21, 56, 5, 505, 1426), (2, 0, 0, 0, 0), (6, 11, 5, 47, 386), (21, 57, 5, 508, 1430), (27, 0, 0, 0, 0)]
def z_p_X11_beginHour : List Nat := [0, 1, 2, 5, 6, 7, 10, 11, 14, 17, 18, 19, 20, 21, 24, 27, 30, 31, 34, 35, 38, 41, 42, 45, 46, 49, 50, 53, 56, 57, 58, 61, 62, 65, 68, 69, 72, 73, 76, 79, 80, 83, 84, 87, 90, 91, 94, 97, 98]
def z_c_J6_bitCount_0f7a4 : List zI := [(1, 0, 0, 0, 0), (1, 0, 0, 0, 0), (0, 0, 1, 0, 0), (13, 10, 0, 0, 0), (0, 0, 1431655765, 265, 1203), (13, 5, 0, 0, 0), (13, 1, 0, 0, 0), (3, 0, 0, 0, 0), (1, 0, 0, 0, 0), (0, 0, 858993459, 266, 1204), (13, 5, 0, 0, 0), (1, 0, 0, 0, 0), (0, 0, 2, 0, 0), (13, 10, 0, 0, 0), (0, 0, 858993459, 266, 1204), (13, 5, 0, 0, 0), (13, 0, 0, 0, 0), (3, 0, 0, 0, 0), (1, 0, 0, 0, 0), (1, 0, 0, 0, 0), (0, 0, 4, 0, 0), (13, 10, 0, 0, 0), (13, 0, 0, 0, 0), (0, 0, 252645135, 267, 1205), (13, 5, 0, 0, 0), (3, 0, 0, 0, 0), (1, 0, 0, 0, 0), (1, 0, 0, 0, 0), (0, 0, 8, 0, 0), (13, 10, 0, 0, 0), (13, 0, 0, 0, 0), (3, 0, 0, 0, 0), (1, 0, 0, 0, 0), (1, 0, 0, 0, 0), (0, 0, 16, 0, 0), (13, 10, 0, 0, 0), (13, 0, 0, 0, 0), (3, 0, 0, 0, 0), (1, 0, 0, 0, 0), (0, 0, 63, 0, 0), (13, 5, 0, 0, 0), (25, 0, 0, 0, 0)]
def z_p_J6_bitCount_0f7a4 : List Nat := [0, 1, 2, 3, 4, 7, 8, 9, 10, 11, 14, 15, 16, 17, 18, 21, 22, 23, 24, 25, 26, 27, 28, 29, 32, 33, 34, 35, 36, 38, 39, 40, 41, 42, 43, 45, 46, 47, 48, 49, 51, 52, 53]
def z_c_J9_floorMod_7cf53 : List zI := [(1, 0, 0, 0, 0), (1, 1, 0, 0, 0), (13, 4, 0, 0, 0), (3, 2, 0, 0, 0), (1, 0, 0, 0, 0), (1, 1, 0, 0, 0), (13, 7, 0, 0, 0), (18, 14, 3, 0, 0), (1, 2, 0, 0, 0), (18, 14, 0, 0, 0), (1, 2, 0, 0, 0), (1, 1, 0, 0, 0), (13, 0, 0, 0, 0), (25, 0, 0, 0, 0), (1, 2, 0, 0, 0), (25, 0, 0, 0, 0)]
def z_p_J9_floorMod_7cf53 : List Nat := [0, 1, 2, 3, 4, 5, 6, 7, 10, 11, 14, 15, 16, 17, 18, 19, 20]
def z_c_L_draw : List zI := [(1, 1, 0, 0, 0), (2, 0, 0, 0, 0), (12, 0, 0, 0, 0), (19, 10, 3, 0, 0), (2, 0, 0, 0, 0), (1, 1, 0, 0, 0), (8, 0, 0, 0, 0), (0, 0, 2147483647, 7, 421), (13, 5, 0, 0, 0), (17, 17, 0, 0, 0), (0, 0, 104729, 8, 422), (1, 1, 0, 0, 0), (0, 0, 2, 0, 0), (13, 0, 0, 0, 0), (13, 2, 0, 0, 0), (0, 0, 65521, 9, 423), (13, 4, 0, 0, 0), (25, 0, 0, 0, 0)]
def z_p_L_draw : List Nat := [0, 1, 2, 3, 6, 7, 8, 9, 11, 12, 15, 17, 18, 19, 20, 21, 23, 24, 25]
def z_c_L_begins_0 : List zI := [(2, 1, 0, 0, 0), (0, 0, 6, 0, 0), (0, 0, 1, 0, 0), (1, 3, 0, 0, 0), (0, 0, 6, 0, 0), (13, 4, 0, 0, 0), (13, 0, 0, 0, 0), (10, 0, 0, 0, 0), (2, 1, 0, 0, 0), (0, 0, 7, 0, 0), (0, 0, 1, 0, 0), (1, 3, 0, 0, 0), (0, 0, 6, 0, 0), (13, 3, 0, 0, 0), (2, 1, 0, 0, 0), (0, 0, 6, 0, 0), (8, 0, 0, 0, 0), (13, 4, 0, 0, 0), (13, 0, 0, 0, 0), (10, 0, 0, 0, 0), (2, 0, 0, 0, 0), (1, 3, 0, 0, 0), (0, 0, 65536, 10, 427), (13, 4, 0, 0, 0), (2, 1, 0, 0, 0), (0, 0, 6, 0, 0), (8, 0, 0, 0, 0), (2, 1, 0, 0, 0), (0, 0, 7, 0, 0), (8, 0, 0, 0, 0), (21, 131, 11, 11, 428), (2, 0, 0, 0, 0), (21, 135, 11, 17, 555), (18, 40, 1, 0, 0), (2, 0, 0, 0, 0), (21, 142, 11, 21, 563), (0, 0, 1, 0, 0), (19, 40, 1, 0, 0), (0, 0, 1, 0, 0), (17, 41, 0, 0, 0), (0, 0, 0, 0, 0), (3, 4, 0, 0, 0), (1, 4, 0, 0, 0), (18, 50, 0, 0, 0), (2, 0, 0, 0, 0), (2, 1, 0, 0, 0), (22, 326, 0, 25, 571), (18, 50, 0, 0, 0), (0, 0, 1, 0, 0), (17, 51, 0, 0, 0), (0, 0, 0, 0, 0), (3, 4, 0, 0, 0), (0, 0, 0, 0, 0), (3, 5, 0, 0, 0), (1, 5, 0, 0, 0), (0, 0, 6, 0, 0), (19, 102, 3, 0, 0), (1, 3, 0, 0, 0), (0, 0, 64, 0, 0), (13, 3, 0, 0, 0), (1, 5, 0, 0, 0), (13, 0, 0, 0, 0), (0, 0, 4, 0, 0), (13, 4, 0, 0, 0), (0, 0, 1, 0, 0), (13, 1, 0, 0, 0), (3, 6, 0, 0, 0), (1, 6, 0, 0, 0), (18, 81, 2, 0, 0), (2, 0, 0, 0, 0), (1, 5, 0, 0, 0), (1, 6, 0, 0, 0), (1, 6, 0, 0, 0), (0, 0, 1, 0, 0), (19, 79, 1, 0, 0), (1, 5, 0, 0, 0), (0, 0, 3, 0, 0), (13, 4, 0, 0, 0), (17, 80, 0, 0, 0), (0, 0, 0, 0, 0), (21, 143, 11, 31, 634), (2, 2, 0, 0, 0), (1, 5, 0, 0, 0), (1, 6, 0, 0, 0), (0, 0, 1, 0, 0), (13, 0, 0, 0, 0), (10, 0, 0, 0, 0), (2, 2, 0, 0, 0), (0, 0, 6, 0, 0), (1, 5, 0, 0, 0), (13, 0, 0, 0, 0), (1, 6, 0, 0, 0), (0, 0, 1, 0, 0), (19, 98, 1, 0, 0), (1, 5, 0, 0, 0), (0, 0, 3, 0, 0), (13, 4, 0, 0, 0), (17, 99, 0, 0, 0), (0, 0, 0, 0, 0), (10, 0, 0, 0, 0), (5, 5, 1, 0, 0), (17, 54, 0, 0, 0), (1, 4, 0, 0, 0), (18, 211, 0, 0, 0), (2, 0, 0, 0, 0), (0, 0, 0, 0, 0), (0, 0, 8, 0, 0), (0, 0, 0, 0, 0), (0, 0, 0, 0, 0), (0, 0, 15, 0, 0), (0, 0, 0, 0, 0), (21, 145, 11, 34, 689), (0, 0, 1, 0, 0), (19, 211, 1, 0, 0), (2, 0, 0, 0, 0), (0, 0, 1, 0, 0), (0, 0, 6, 0, 0), (0, 0, 7, 0, 0), (0, 0, 8, 0, 0), (0, 0, 3, 0, 0), (0, 0, 0, 0, 0), (21, 145, 11, 34, 689), (0, 0, 1, 0, 0), (19, 211, 1, 0, 0), (2, 0, 0, 0, 0), (0, 0, 1, 0, 0), (0, 0, 6, 0, 0), (0, 0, 6, 0, 0), (0, 0, 6, 0, 0), (0, 0, 9, 0, 0), (0, 0, 1, 0, 0), (21, 145, 11, 34, 689), (0, 0, 2, 0, 0), (19, 211, 1, 0, 0), (2, 0, 0, 0, 0), (0, 0, 2, 0, 0), (0, 0, 6, 0, 0), (0, 0, 2, 0, 0), (0, 0, 6, 0, 0), (0, 0, 0, 0, 0), (0, 0, 0, 0, 0), (21, 145, 11, 34, 689), (0, 0, 1, 0, 0), (19, 211, 1, 0, 0), (2, 0, 0, 0, 0), (0, 0, 3, 0, 0), (0, 0, 8, 0, 0), (0, 0, 0, 0, 0), (0, 0, 0, 0, 0), (0, 0, 1, 0, 0)]
def z_c_L_begins_1 : List zI := [(0, 0, 2, 0, 0), (21, 145, 11, 34, 689), (0, 0, 1, 0, 0), (19, 211, 1, 0, 0), (2, 0, 0, 0, 0), (0, 0, 4, 0, 0), (0, 0, 0, 0, 0), (0, 0, 8, 0, 0), (0, 0, 0, 0, 0), (0, 0, 15, 0, 0), (0, 0, 0, 0, 0), (21, 145, 11, 34, 689), (0, 0, 1, 0, 0), (19, 211, 1, 0, 0), (2, 0, 0, 0, 0), (0, 0, 0, 0, 0), (0, 0, 0, 0, 0), (0, 0, 0, 0, 0), (21, 148, 11, 38, 701), (0, 0, (-1), 0, 0), (19, 211, 1, 0, 0), (2, 0, 0, 0, 0), (0, 0, 1, 0, 0), (0, 0, 1, 0, 0), (0, 0, 1, 0, 0), (21, 148, 11, 38, 701), (0, 0, (-1), 0, 0), (19, 211, 1, 0, 0), (2, 0, 0, 0, 0), (0, 0, 2, 0, 0), (0, 0, 5, 0, 0), (0, 0, 7, 0, 0), (21, 148, 11, 38, 701), (0, 0, (-1), 0, 0), (19, 211, 1, 0, 0), (2, 0, 0, 0, 0), (0, 0, 0, 0, 0), (0, 0, 0, 0, 0), (0, 0, 1, 0, 0), (21, 147, 11, 42, 712), (18, 211, 1, 0, 0), (2, 0, 0, 0, 0), (0, 0, 0, 0, 0), (0, 0, 1, 0, 0), (0, 0, 2, 0, 0), (21, 147, 11, 42, 712), (18, 211, 1, 0, 0), (2, 0, 0, 0, 0), (0, 0, 1, 0, 0), (0, 0, 7, 0, 0), (0, 0, 8, 0, 0), (21, 147, 11, 42, 712), (18, 211, 1, 0, 0), (2, 0, 0, 0, 0), (0, 0, 2, 0, 0), (0, 0, 3, 0, 0), (0, 0, 16, 0, 0), (21, 147, 11, 42, 712), (18, 211, 1, 0, 0), (0, 0, 1, 0, 0), (17, 212, 0, 0, 0), (0, 0, 0, 0, 0), (26, 0, 0, 0, 0)]
def z_c_L_begins : List zI := z_c_L_begins_0 ++ (z_c_L_begins_1)
def z_p_L_begins_0 : List Nat := [0, 1, 3, 4, 5, 7, 8, 9, 10, 11, 13, 14, 15, 17, 18, 19, 21, 22, 23, 24, 25, 26, 27, 29, 30, 31, 33, 34, 35, 37, 38, 41, 42, 45, 48, 49, 52, 53, 56, 57, 60, 61, 63, 65, 68, 69, 70, 73, 76, 77, 80, 81, 83, 84, 86, 88, 90, 93, 94, 96, 97, 99, 100, 101, 102, 103, 104, 106, 108, 111, 112, 114, 116, 118, 119, 122, 124, 125, 126, 129, 130, 133, 134, 136, 138, 139, 140, 141, 142, 144, 146, 147, 149, 150, 153, 155, 156, 157, 160, 161, 162, 165, 168, 170, 173, 174, 175, 177, 178, 179, 181, 182, 185, 186, 189, 190, 191, 193, 195, 197, 198, 199, 202, 203, 206, 207, 208, 210, 212, 214, 216, 217, 220, 221, 224, 225, 226, 228, 229, 231, 232, 233, 236, 237, 240, 241, 242, 244, 245, 246]
def z_p_L_begins_1 : List Nat := [247, 248, 251, 252, 255, 256, 257, 258, 260, 261, 263, 264, 267, 268, 271, 272, 273, 274, 275, 278, 279, 282, 283, 284, 285, 286, 289, 290, 293, 294, 295, 296, 298, 301, 302, 305, 306, 307, 308, 309, 312, 315, 316, 317, 318, 319, 322, 325, 326, 327, 329, 331, 334, 337, 338, 339, 340, 342, 345, 348, 349, 352, 353, 354]
def z_p_L_begins : List Nat := z_p_L_begins_0 ++ (z_p_L_begins_1)
def z_c_L_opens : List zI := [(2, 0, 0, 0, 0), (21, 135, 11, 17, 555), (18, 5, 1, 0, 0), (0, 0, 1, 0, 0), (17, 6, 0, 0, 0), (0, 0, 0, 0, 0), (3, 2, 0, 0, 0), (0, 0, 0, 0, 0), (3, 3, 0, 0, 0), (1, 3, 0, 0, 0), (2, 1, 0, 0, 0), (0, 0, 7, 0, 0), (8, 0, 0, 0, 0), (19, 49, 3, 0, 0), (1, 2, 0, 0, 0), (18, 49, 0, 0, 0), (2, 0, 0, 0, 0), (2, 1, 0, 0, 0), (0, 0, 6, 0, 0), (8, 0, 0, 0, 0), (1, 3, 0, 0, 0), (13, 1, 0, 0, 0), (2, 0, 0, 0, 0), (2, 1, 0, 0, 0), (0, 0, 6, 0, 0), (8, 0, 0, 0, 0), (1, 3, 0, 0, 0), (13, 1, 0, 0, 0), (21, 132, 11, 45, 574), (21, 133, 11, 49, 604), (1, 3, 0, 0, 0), (2, 1, 0, 0, 0), (0, 0, 7, 0, 0), (8, 0, 0, 0, 0), (0, 0, 1, 0, 0), (13, 1, 0, 0, 0), (19, 39, 1, 0, 0), (0, 0, 0, 0, 0), (17, 42, 0, 0, 0), (1, 3, 0, 0, 0), (0, 0, 1, 0, 0), (13, 0, 0, 0, 0), (19, 45, 1, 0, 0), (0, 0, 1, 0, 0), (17, 46, 0, 0, 0), (0, 0, 0, 0, 0), (3, 2, 0, 0, 0), (5, 3, 1, 0, 0), (17, 9, 0, 0, 0), (2, 1, 0, 0, 0), (0, 0, 8, 0, 0), (0, 0, 1, 0, 0), (10, 0, 0, 0, 0), (1, 2, 0, 0, 0), (18, 60, 0, 0, 0), (2, 0, 0, 0, 0), (21, 135, 11, 17, 555), (18, 60, 0, 0, 0), (0, 0, 1, 0, 0), (17, 61, 0, 0, 0), (0, 0, 0, 0, 0), (26, 0, 0, 0, 0)]
def z_p_L_opens : List Nat := [0, 1, 4, 7, 8, 11, 12, 13, 14, 15, 16, 17, 19, 20, 23, 24, 27, 28, 29, 31, 32, 33, 34, 35, 36, 38, 39, 40, 41, 44, 47, 48, 49, 51, 52, 53, 54, 57, 58, 61, 62, 63, 64, 67, 68, 71, 72, 73, 76, 79, 80, 82, 83, 84, 85, 88, 89, 92, 95, 96, 99, 100, 101]
def z_c_L_step_0 : List zI := [(2, 1, 0, 0, 0), (0, 0, 1, 0, 0), (8, 0, 0, 0, 0), (18, 6, 1, 0, 0), (0, 0, 0, 0, 0), (17, 11, 0, 0, 0), (1, 4, 0, 0, 0), (2, 1, 0, 0, 0), (0, 0, 1, 0, 0), (8, 0, 0, 0, 0), (13, 4, 0, 0, 0), (3, 6, 0, 0, 0), (1, 5, 0, 0, 0), (0, 0, 216, 0, 0), (13, 4, 0, 0, 0), (3, 7, 0, 0, 0), (1, 4, 0, 0, 0), (0, 0, 64, 0, 0), (13, 3, 0, 0, 0), (0, 0, 4, 0, 0), (13, 4, 0, 0, 0), (3, 8, 0, 0, 0), (1, 3, 0, 0, 0), (0, 0, 24, 0, 0), (13, 4, 0, 0, 0), (36, 1, 0, 0, 0), (2, 1, 0, 0, 0), (0, 0, 8, 0, 0), (8, 0, 0, 0, 0), (0, 0, 1, 0, 0), (19, 60, 1, 0, 0), (1, 5, 0, 0, 0), (0, 0, 3, 0, 0), (13, 4, 0, 0, 0), (18, 60, 1, 0, 0), (2, 1, 0, 0, 0), (0, 0, 8, 0, 0), (0, 0, 0, 0, 0), (10, 0, 0, 0, 0), (2, 0, 0, 0, 0), (21, 134, 11, 53, 726), (18, 58, 0, 0, 0), (2, 0, 0, 0, 0), (21, 135, 11, 17, 555), (18, 58, 1, 0, 0), (2, 0, 0, 0, 0), (21, 134, 11, 53, 726), (18, 58, 1, 0, 0), (2, 0, 0, 0, 0), (1, 6, 0, 0, 0), (1, 8, 0, 0, 0), (1, 7, 0, 0, 0), (0, 0, 0, 0, 0), (21, 158, 11, 56, 734), (0, 0, (-2), 0, 0), (19, 58, 1, 0, 0), (0, 0, 1, 0, 0), (17, 59, 0, 0, 0), (0, 0, 0, 0, 0), (26, 0, 0, 0, 0), (2, 1, 0, 0, 0), (0, 0, 8, 0, 0), (8, 0, 0, 0, 0), (0, 0, 1, 0, 0), (19, 69, 0, 0, 0), (2, 0, 0, 0, 0), (2, 1, 0, 0, 0), (22, 326, 0, 25, 571), (18, 71, 0, 0, 0), (0, 0, 1, 0, 0), (17, 72, 0, 0, 0), (0, 0, 0, 0, 0), (26, 0, 0, 0, 0), (2, 0, 0, 0, 0), (2, 1, 0, 0, 0), (1, 4, 0, 0, 0), (0, 0, 3, 0, 0), (13, 4, 0, 0, 0), (1, 5, 0, 0, 0), (0, 0, 6, 0, 0), (13, 4, 0, 0, 0), (22, 328, 0, 60, 896), (26, 0, 0, 0, 0), (2, 0, 0, 0, 0), (2, 1, 0, 0, 0), (1, 6, 0, 0, 0), (1, 4, 0, 0, 0), (1, 5, 0, 0, 0), (22, 329, 0, 64, 936), (26, 0, 0, 0, 0), (2, 1, 0, 0, 0), (0, 0, 1, 0, 0), (8, 0, 0, 0, 0), (18, 100, 0, 0, 0), (2, 0, 0, 0, 0), (2, 1, 0, 0, 0), (1, 6, 0, 0, 0), (1, 5, 0, 0, 0), (22, 330, 0, 68, 951), (18, 102, 0, 0, 0), (0, 0, 1, 0, 0), (17, 103, 0, 0, 0), (0, 0, 0, 0, 0), (26, 0, 0, 0, 0), (2, 1, 0, 0, 0), (0, 0, 1, 0, 0), (8, 0, 0, 0, 0), (18, 115, 1, 0, 0), (2, 0, 0, 0, 0), (21, 174, 11, 71, 958), (18, 113, 1, 0, 0), (0, 0, 1, 0, 0), (17, 114, 0, 0, 0), (0, 0, 0, 0, 0), (26, 0, 0, 0, 0), (2, 0, 0, 0, 0), (1, 6, 0, 0, 0), (21, 156, 11, 74, 927), (3, 9, 0, 0, 0), (2, 0, 0, 0, 0), (1, 6, 0, 0, 0), (0, 0, 1, 0, 0), (1, 5, 0, 0, 0), (0, 0, 100, 0, 0), (13, 4, 0, 0, 0), (13, 0, 0, 0, 0), (21, 153, 11, 78, 966), (3, 10, 0, 0, 0), (2, 1, 0, 0, 0), (0, 0, 8, 0, 0), (8, 0, 0, 0, 0), (18, 139, 1, 0, 0), (1, 10, 0, 0, 0), (0, 0, (-2), 0, 0), (19, 137, 1, 0, 0), (0, 0, 1, 0, 0), (17, 166, 0, 0, 0), (0, 0, 0, 0, 0), (17, 166, 0, 0, 0), (1, 9, 0, 0, 0), (18, 160, 0, 0, 0), (1, 10, 0, 0, 0), (0, 0, (-4), 0, 0), (19, 156, 0, 0, 0), (1, 10, 0, 0, 0), (2, 1, 0, 0, 0), (0, 0, 0, 0, 0), (8, 0, 0, 0, 0), (19, 158, 5, 0, 0), (1, 10, 0, 0, 0)]
def z_c_L_step_1 : List zI := [(2, 1, 0, 0, 0), (0, 0, 0, 0, 0), (8, 0, 0, 0, 0), (0, 0, 100, 0, 0), (13, 0, 0, 0, 0), (19, 158, 4, 0, 0), (0, 0, 1, 0, 0), (17, 166, 0, 0, 0), (0, 0, 0, 0, 0), (17, 166, 0, 0, 0), (1, 10, 0, 0, 0), (0, 0, (-4), 0, 0), (19, 165, 1, 0, 0), (0, 0, 1, 0, 0), (17, 166, 0, 0, 0), (0, 0, 0, 0, 0), (26, 0, 0, 0, 0), (2, 0, 0, 0, 0), (2, 1, 0, 0, 0), (2, 2, 0, 0, 0), (1, 6, 0, 0, 0), (1, 8, 0, 0, 0), (1, 7, 0, 0, 0), (1, 4, 0, 0, 0), (0, 0, 512, 0, 0), (13, 3, 0, 0, 0), (22, 331, 0, 81, 977), (26, 0, 0, 0, 0), (2, 0, 0, 0, 0), (2, 1, 0, 0, 0), (2, 2, 0, 0, 0), (1, 6, 0, 0, 0), (1, 8, 0, 0, 0), (1, 7, 0, 0, 0), (1, 4, 0, 0, 0), (0, 0, 512, 0, 0), (13, 3, 0, 0, 0), (22, 332, 0, 85, 1065), (26, 0, 0, 0, 0), (2, 0, 0, 0, 0), (1, 4, 0, 0, 0), (0, 0, 3, 0, 0), (13, 4, 0, 0, 0), (1, 5, 0, 0, 0), (0, 0, 3, 0, 0), (13, 4, 0, 0, 0), (21, 162, 11, 88, 1138), (3, 11, 0, 0, 0), (1, 11, 0, 0, 0), (18, 217, 2, 0, 0), (1, 11, 0, 0, 0), (0, 0, 3, 0, 0), (19, 217, 3, 0, 0), (2, 0, 0, 0, 0), (1, 4, 0, 0, 0), (0, 0, 3, 0, 0), (13, 4, 0, 0, 0), (1, 5, 0, 0, 0), (0, 0, 3, 0, 0), (13, 4, 0, 0, 0), (21, 162, 11, 88, 1138), (1, 5, 0, 0, 0), (0, 0, 3, 0, 0), (13, 4, 0, 0, 0), (19, 217, 1, 0, 0), (0, 0, 1, 0, 0), (17, 218, 0, 0, 0), (0, 0, 0, 0, 0), (26, 0, 0, 0, 0), (2, 0, 0, 0, 0), (2, 1, 0, 0, 0), (1, 6, 0, 0, 0), (1, 8, 0, 0, 0), (1, 7, 0, 0, 0), (22, 333, 0, 91, 1146), (26, 0, 0, 0, 0), (2, 1, 0, 0, 0), (0, 0, 4, 0, 0), (8, 0, 0, 0, 0), (18, 244, 0, 0, 0), (2, 0, 0, 0, 0), (2, 1, 0, 0, 0), (1, 6, 0, 0, 0), (1, 8, 0, 0, 0), (1, 4, 0, 0, 0), (0, 0, 512, 0, 0), (13, 3, 0, 0, 0), (2, 1, 0, 0, 0), (0, 0, 4, 0, 0), (8, 0, 0, 0, 0), (13, 4, 0, 0, 0), (1, 5, 0, 0, 0), (22, 334, 0, 94, 1169), (18, 246, 0, 0, 0), (0, 0, 1, 0, 0), (17, 247, 0, 0, 0), (0, 0, 0, 0, 0), (26, 0, 0, 0, 0), (2, 0, 0, 0, 0), (2, 1, 0, 0, 0), (1, 6, 0, 0, 0), (1, 8, 0, 0, 0), (1, 7, 0, 0, 0), (0, 0, 1, 0, 0), (1, 5, 0, 0, 0), (0, 0, 216, 0, 0), (13, 3, 0, 0, 0), (0, 0, 200, 0, 0), (13, 4, 0, 0, 0), (13, 0, 0, 0, 0), (22, 335, 0, 97, 1223), (26, 0, 0, 0, 0), (1, 4, 0, 0, 0), (0, 0, 6, 0, 0), (13, 4, 0, 0, 0), (3, 12, 0, 0, 0), (2, 2, 0, 0, 0), (1, 12, 0, 0, 0), (8, 0, 0, 0, 0), (18, 310, 1, 0, 0), (1, 5, 0, 0, 0), (0, 0, 3, 0, 0), (13, 4, 0, 0, 0), (3, 13, 0, 0, 0), (2, 0, 0, 0, 0), (1, 12, 0, 0, 0), (1, 13, 0, 0, 0), (1, 13, 0, 0, 0), (0, 0, 1, 0, 0), (19, 286, 1, 0, 0), (1, 5, 0, 0, 0), (0, 0, 3, 0, 0), (13, 3, 0, 0, 0), (0, 0, 3, 0, 0), (13, 4, 0, 0, 0), (17, 287, 0, 0, 0), (0, 0, 0, 0, 0), (21, 143, 11, 31, 634), (2, 2, 0, 0, 0), (1, 12, 0, 0, 0), (1, 13, 0, 0, 0), (0, 0, 1, 0, 0), (13, 0, 0, 0, 0), (10, 0, 0, 0, 0), (2, 2, 0, 0, 0), (0, 0, 6, 0, 0), (1, 12, 0, 0, 0), (13, 0, 0, 0, 0), (1, 13, 0, 0, 0), (0, 0, 1, 0, 0)]
def z_c_L_step_2 : List zI := [(19, 307, 1, 0, 0), (1, 5, 0, 0, 0), (0, 0, 3, 0, 0), (13, 3, 0, 0, 0), (0, 0, 3, 0, 0), (13, 4, 0, 0, 0), (17, 308, 0, 0, 0), (0, 0, 0, 0, 0), (10, 0, 0, 0, 0), (17, 346, 0, 0, 0), (1, 5, 0, 0, 0), (0, 0, 5, 0, 0), (13, 4, 0, 0, 0), (18, 346, 1, 0, 0), (2, 0, 0, 0, 0), (1, 12, 0, 0, 0), (0, 0, (-1), 0, 0), (0, 0, 0, 0, 0), (21, 143, 11, 31, 634), (2, 2, 0, 0, 0), (1, 12, 0, 0, 0), (0, 0, 0, 0, 0), (10, 0, 0, 0, 0), (2, 0, 0, 0, 0), (0, 0, 36, 0, 0), (1, 12, 0, 0, 0), (13, 2, 0, 0, 0), (1, 5, 0, 0, 0), (0, 0, 5, 0, 0), (13, 3, 0, 0, 0), (0, 0, 36, 0, 0), (13, 4, 0, 0, 0), (13, 0, 0, 0, 0), (0, 0, 0, 0, 0), (21, 161, 11, 100, 1028), (0, 0, (-1), 0, 0), (19, 344, 1, 0, 0), (2, 0, 0, 0, 0), (1, 12, 0, 0, 0), (0, 0, (-1), 0, 0), (21, 165, 11, 103, 1134), (18, 344, 1, 0, 0), (0, 0, 1, 0, 0), (17, 345, 0, 0, 0), (0, 0, 0, 0, 0), (26, 0, 0, 0, 0), (2, 0, 0, 0, 0), (1, 12, 0, 0, 0), (0, 0, 100, 0, 0), (21, 144, 11, 106, 1299), (18, 353, 2, 0, 0), (0, 0, 1, 0, 0), (17, 354, 0, 0, 0), (0, 0, 0, 0, 0), (26, 0, 0, 0, 0), (2, 0, 0, 0, 0), (21, 142, 11, 21, 563), (3, 13, 0, 0, 0), (1, 5, 0, 0, 0), (0, 0, 4, 0, 0), (13, 4, 0, 0, 0), (18, 378, 1, 0, 0), (2, 0, 0, 0, 0), (21, 139, 11, 109, 1307), (1, 13, 0, 0, 0), (0, 0, 1, 0, 0), (13, 0, 0, 0, 0), (19, 376, 1, 0, 0), (2, 0, 0, 0, 0), (21, 142, 11, 21, 563), (1, 13, 0, 0, 0), (0, 0, 1, 0, 0), (13, 0, 0, 0, 0), (19, 376, 1, 0, 0), (0, 0, 1, 0, 0), (17, 377, 0, 0, 0), (0, 0, 0, 0, 0), (26, 0, 0, 0, 0), (2, 0, 0, 0, 0), (0, 0, 1, 0, 0), (1, 4, 0, 0, 0), (0, 0, 20, 0, 0), (13, 4, 0, 0, 0), (13, 0, 0, 0, 0), (0, 0, 1, 0, 0), (1, 5, 0, 0, 0), (0, 0, 50, 0, 0), (13, 4, 0, 0, 0), (13, 0, 0, 0, 0), (21, 138, 11, 112, 1312), (1, 5, 0, 0, 0), (0, 0, 8, 0, 0), (13, 4, 0, 0, 0), (0, 0, 1, 0, 0), (19, 405, 4, 0, 0), (2, 0, 0, 0, 0), (1, 13, 0, 0, 0), (21, 140, 11, 116, 1320), (1, 13, 0, 0, 0), (19, 407, 4, 0, 0), (2, 0, 0, 0, 0), (1, 13, 0, 0, 0), (21, 140, 11, 116, 1320), (1, 13, 0, 0, 0), (19, 407, 1, 0, 0), (0, 0, 1, 0, 0), (17, 408, 0, 0, 0), (0, 0, 0, 0, 0), (26, 0, 0, 0, 0), (2, 1, 0, 0, 0), (0, 0, 8, 0, 0), (8, 0, 0, 0, 0), (18, 426, 0, 0, 0), (2, 0, 0, 0, 0), (0, 0, 1, 0, 0), (1, 5, 0, 0, 0), (0, 0, 50, 0, 0), (13, 4, 0, 0, 0), (13, 0, 0, 0, 0), (21, 141, 11, 119, 1328), (0, 0, 1, 0, 0), (1, 5, 0, 0, 0), (0, 0, 50, 0, 0), (13, 4, 0, 0, 0), (13, 0, 0, 0, 0), (19, 428, 4, 0, 0), (0, 0, 1, 0, 0), (17, 429, 0, 0, 0), (0, 0, 0, 0, 0), (26, 0, 0, 0, 0), (2, 0, 0, 0, 0), (0, 0, 1, 0, 0), (1, 5, 0, 0, 0), (0, 0, 100, 0, 0), (13, 4, 0, 0, 0), (13, 0, 0, 0, 0), (21, 182, 11, 122, 1340), (3, 14, 0, 0, 0), (1, 14, 0, 0, 0), (18, 451, 2, 0, 0), (1, 14, 0, 0, 0), (18, 449, 0, 0, 0), (2, 0, 0, 0, 0), (0, 0, 1, 0, 0), (21, 182, 11, 122, 1340), (1, 14, 0, 0, 0), (0, 0, 1, 0, 0), (13, 1, 0, 0, 0), (19, 451, 1, 0, 0), (0, 0, 1, 0, 0)]
def z_c_L_step_3 : List zI := [(17, 452, 0, 0, 0), (0, 0, 0, 0, 0), (26, 0, 0, 0, 0), (1, 4, 0, 0, 0), (0, 0, 3, 0, 0), (13, 4, 0, 0, 0), (3, 15, 0, 0, 0), (2, 0, 0, 0, 0), (1, 15, 0, 0, 0), (1, 5, 0, 0, 0), (0, 0, 2, 0, 0), (13, 4, 0, 0, 0), (18, 465, 1, 0, 0), (0, 0, 1, 0, 0), (17, 466, 0, 0, 0), (0, 0, 0, 0, 0), (1, 5, 0, 0, 0), (0, 0, 2, 0, 0), (13, 3, 0, 0, 0), (0, 0, 4, 0, 0), (13, 4, 0, 0, 0), (18, 474, 1, 0, 0), (0, 0, 1, 0, 0), (17, 475, 0, 0, 0), (0, 0, 0, 0, 0), (0, 0, 1, 0, 0), (1, 5, 0, 0, 0), (0, 0, 8, 0, 0), (13, 3, 0, 0, 0), (0, 0, 1000, 0, 0), (13, 4, 0, 0, 0), (13, 0, 0, 0, 0), (21, 180, 11, 125, 1355), (18, 493, 0, 0, 0), (2, 0, 0, 0, 0), (1, 15, 0, 0, 0), (21, 181, 11, 129, 1363), (18, 495, 2, 0, 0), (2, 0, 0, 0, 0), (1, 15, 0, 0, 0), (21, 181, 11, 129, 1363), (0, 0, 65521, 9, 423), (19, 495, 3, 0, 0), (0, 0, 1, 0, 0), (17, 496, 0, 0, 0), (0, 0, 0, 0, 0), (26, 0, 0, 0, 0), (2, 0, 0, 0, 0), (1, 4, 0, 0, 0), (1, 5, 0, 0, 0), (22, 336, 0, 132, 1371), (26, 0, 0, 0, 0), (0, 0, 1, 0, 0), (1, 5, 0, 0, 0), (0, 0, 4, 0, 0), (13, 4, 0, 0, 0), (13, 0, 0, 0, 0), (3, 16, 0, 0, 0), (2, 1, 0, 0, 0), (0, 0, 0, 0, 0), (15, 0, 0, 0, 0), (8, 0, 0, 0, 0), (1, 16, 0, 0, 0), (13, 0, 0, 0, 0), (10, 0, 0, 0, 0), (2, 0, 0, 0, 0), (1, 16, 0, 0, 0), (21, 184, 11, 136, 1406), (2, 1, 0, 0, 0), (0, 0, 0, 0, 0), (8, 0, 0, 0, 0), (19, 524, 1, 0, 0), (0, 0, 1, 0, 0), (17, 525, 0, 0, 0), (0, 0, 0, 0, 0), (26, 0, 0, 0, 0)]
def z_c_L_step : List zI := z_c_L_step_0 ++ (z_c_L_step_1 ++ (z_c_L_step_2 ++ (z_c_L_step_3)))
def z_p_L_step_0 : List Nat := [0, 1, 2, 3, 6, 7, 10, 12, 13, 14, 15, 16, 18, 20, 23, 24, 26, 28, 30, 31, 32, 33, 35, 36, 38, 39, 144, 145, 147, 148, 149, 152, 154, 155, 156, 159, 160, 162, 163, 164, 165, 168, 171, 172, 175, 178, 179, 182, 185, 186, 188, 190, 192, 193, 196, 198, 201, 202, 205, 206, 207, 208, 210, 211, 212, 215, 216, 217, 220, 223, 224, 227, 228, 229, 230, 231, 233, 234, 235, 237, 239, 240, 243, 244, 245, 246, 248, 250, 252, 255, 256, 257, 258, 259, 262, 263, 264, 266, 268, 271, 274, 275, 278, 279, 280, 281, 282, 283, 286, 287, 290, 293, 294, 297, 298, 299, 300, 302, 305, 307, 308, 310, 311, 313, 315, 316, 317, 320, 322, 323, 325, 326, 329, 331, 333, 336, 337, 340, 341, 344, 346, 349, 351, 353, 356, 358, 359, 360, 361, 364]
def z_p_L_step_1 : List Nat := [366, 367, 368, 369, 371, 372, 375, 376, 379, 380, 383, 385, 387, 390, 391, 394, 395, 396, 397, 398, 399, 401, 403, 405, 407, 410, 411, 414, 415, 416, 417, 418, 420, 422, 424, 426, 429, 430, 433, 434, 435, 437, 438, 439, 441, 442, 443, 446, 448, 450, 453, 455, 456, 459, 460, 462, 463, 464, 466, 467, 468, 471, 473, 474, 475, 478, 479, 482, 483, 484, 485, 486, 488, 490, 492, 495, 496, 497, 498, 499, 502, 503, 504, 506, 508, 510, 513, 514, 515, 516, 517, 518, 520, 523, 526, 527, 530, 531, 532, 533, 534, 536, 538, 540, 541, 543, 546, 547, 550, 551, 552, 555, 556, 558, 560, 561, 563, 564, 566, 567, 570, 572, 573, 574, 576, 577, 579, 581, 583, 584, 587, 589, 590, 591, 592, 593, 596, 597, 600, 601, 603, 605, 606, 607, 608, 609, 611, 613, 614, 616]
def z_p_L_step_2 : List Nat := [617, 620, 622, 623, 624, 625, 626, 629, 630, 631, 634, 636, 637, 638, 641, 642, 644, 645, 646, 649, 650, 652, 653, 654, 655, 657, 659, 660, 662, 663, 664, 666, 667, 668, 669, 672, 673, 676, 677, 679, 680, 683, 686, 687, 690, 691, 692, 693, 695, 697, 700, 703, 704, 707, 708, 709, 710, 713, 715, 717, 718, 719, 722, 723, 726, 728, 729, 730, 733, 734, 737, 739, 740, 741, 744, 745, 748, 749, 750, 751, 752, 754, 756, 757, 758, 759, 761, 763, 764, 765, 768, 770, 772, 773, 774, 777, 778, 780, 783, 785, 788, 789, 791, 794, 796, 799, 800, 803, 804, 805, 806, 808, 809, 812, 813, 814, 816, 818, 819, 820, 823, 824, 826, 828, 829, 830, 833, 834, 837, 838, 839, 840, 841, 843, 845, 846, 847, 850, 852, 854, 857, 859, 862, 863, 864, 867, 869, 870, 871, 874]
def z_p_L_step_3 : List Nat := [875, 878, 879, 880, 882, 883, 884, 886, 887, 889, 891, 892, 893, 896, 897, 900, 901, 903, 904, 905, 906, 907, 910, 911, 914, 915, 916, 918, 920, 921, 924, 925, 926, 929, 932, 933, 935, 938, 941, 942, 944, 947, 949, 952, 953, 956, 957, 958, 959, 961, 963, 966, 967, 968, 970, 971, 972, 973, 975, 976, 977, 978, 979, 981, 982, 983, 984, 986, 989, 990, 991, 992, 995, 996, 999, 1000, 1001]
def z_p_L_step : List Nat := z_p_L_step_0 ++ (z_p_L_step_1 ++ (z_p_L_step_2 ++ (z_p_L_step_3)))
def z_c_L_logs : List zI := [(2, 0, 0, 0, 0), (1, 2, 0, 0, 0), (1, 3, 0, 0, 0), (21, 151, 11, 139, 899), (3, 4, 0, 0, 0), (1, 4, 0, 0, 0), (18, 30, 3, 0, 0), (1, 4, 0, 0, 0), (2, 1, 0, 0, 0), (0, 0, 8, 0, 0), (8, 0, 0, 0, 0), (18, 14, 1, 0, 0), (0, 0, (-2), 0, 0), (17, 25, 0, 0, 0), (2, 1, 0, 0, 0), (0, 0, 1, 0, 0), (8, 0, 0, 0, 0), (0, 0, 40, 0, 0), (19, 24, 1, 0, 0), (1, 4, 0, 0, 0), (0, 0, (-6), 0, 0), (19, 24, 0, 0, 0), (0, 0, (-11), 0, 0), (17, 25, 0, 0, 0), (0, 0, (-6), 0, 0), (19, 28, 1, 0, 0), (0, 0, 1, 0, 0), (17, 29, 0, 0, 0), (0, 0, 0, 0, 0), (26, 0, 0, 0, 0), (2, 1, 0, 0, 0), (0, 0, 1, 0, 0), (15, 0, 0, 0, 0), (8, 0, 0, 0, 0), (0, 0, 1, 0, 0), (13, 0, 0, 0, 0), (10, 0, 0, 0, 0), (2, 1, 0, 0, 0), (0, 0, 8, 0, 0), (8, 0, 0, 0, 0), (0, 0, 1, 0, 0), (19, 60, 1, 0, 0), (1, 4, 0, 0, 0), (2, 1, 0, 0, 0), (0, 0, 1, 0, 0), (8, 0, 0, 0, 0), (0, 0, 1, 0, 0), (13, 1, 0, 0, 0), (19, 60, 1, 0, 0), (2, 0, 0, 0, 0), (1, 4, 0, 0, 0), (21, 156, 11, 74, 927), (18, 60, 0, 0, 0), (2, 0, 0, 0, 0), (1, 4, 0, 0, 0), (21, 155, 11, 142, 932), (0, 0, (-1), 0, 0), (19, 60, 1, 0, 0), (0, 0, 1, 0, 0), (17, 61, 0, 0, 0), (0, 0, 0, 0, 0), (26, 0, 0, 0, 0)]
def z_p_L_logs : List Nat := [0, 1, 2, 3, 6, 8, 10, 13, 15, 16, 18, 19, 22, 24, 27, 28, 29, 30, 32, 35, 37, 39, 42, 44, 47, 49, 52, 53, 56, 57, 58, 59, 60, 61, 62, 63, 64, 65, 66, 68, 69, 70, 73, 75, 76, 77, 78, 79, 80, 83, 84, 86, 89, 92, 93, 95, 98, 99, 102, 103, 106, 107, 108]
def z_c_L_makes : List zI := [(2, 1, 0, 0, 0), (0, 0, 1, 0, 0), (8, 0, 0, 0, 0), (18, 8, 0, 0, 0), (1, 4, 0, 0, 0), (0, 0, 5, 0, 0), (13, 4, 0, 0, 0), (18, 10, 1, 0, 0), (0, 0, (-1), 0, 0), (17, 11, 0, 0, 0), (1, 2, 0, 0, 0), (3, 5, 0, 0, 0), (0, 0, 1, 0, 0), (1, 3, 0, 0, 0), (0, 0, 256, 0, 0), (13, 3, 0, 0, 0), (0, 0, 100, 0, 0), (13, 4, 0, 0, 0), (13, 0, 0, 0, 0), (3, 6, 0, 0, 0), (1, 6, 0, 0, 0), (1, 4, 0, 0, 0), (0, 0, 2048, 0, 0), (13, 3, 0, 0, 0), (0, 0, 201, 0, 0), (1, 6, 0, 0, 0), (13, 1, 0, 0, 0), (13, 4, 0, 0, 0), (13, 0, 0, 0, 0), (3, 7, 0, 0, 0), (1, 4, 0, 0, 0), (0, 0, 16, 0, 0), (13, 3, 0, 0, 0), (0, 0, 3, 0, 0), (13, 4, 0, 0, 0), (18, 44, 1, 0, 0), (0, 0, 1, 0, 0), (1, 4, 0, 0, 0), (0, 0, 64, 0, 0), (13, 3, 0, 0, 0), (0, 0, 20, 0, 0), (13, 4, 0, 0, 0), (13, 0, 0, 0, 0), (17, 45, 0, 0, 0), (0, 0, (-1), 0, 0), (3, 8, 0, 0, 0), (2, 0, 0, 0, 0), (1, 5, 0, 0, 0), (1, 3, 0, 0, 0), (0, 0, 64, 0, 0), (13, 3, 0, 0, 0), (0, 0, 3, 0, 0), (13, 4, 0, 0, 0), (1, 4, 0, 0, 0), (0, 0, 8, 0, 0), (13, 3, 0, 0, 0), (0, 0, 256, 0, 0), (13, 4, 0, 0, 0), (1, 6, 0, 0, 0), (1, 7, 0, 0, 0), (1, 8, 0, 0, 0), (0, 0, 1, 0, 0), (1, 3, 0, 0, 0), (0, 0, 1024, 0, 0), (13, 3, 0, 0, 0), (0, 0, 15, 0, 0), (13, 4, 0, 0, 0), (13, 0, 0, 0, 0), (1, 4, 0, 0, 0), (0, 0, 2, 0, 0), (13, 4, 0, 0, 0), (18, 74, 1, 0, 0), (0, 0, 1, 0, 0), (17, 75, 0, 0, 0), (0, 0, 0, 0, 0), (21, 152, 11, 145, 939), (3, 9, 0, 0, 0), (1, 9, 0, 0, 0), (18, 114, 3, 0, 0), (2, 1, 0, 0, 0), (0, 0, 8, 0, 0), (8, 0, 0, 0, 0), (18, 90, 1, 0, 0), (1, 9, 0, 0, 0), (0, 0, (-2), 0, 0), (19, 88, 1, 0, 0), (0, 0, 1, 0, 0), (17, 113, 0, 0, 0), (0, 0, 0, 0, 0), (17, 113, 0, 0, 0), (1, 9, 0, 0, 0), (0, 0, (-4), 0, 0), (19, 96, 1, 0, 0), (1, 5, 0, 0, 0), (0, 0, (-1), 0, 0), (19, 110, 1, 0, 0), (1, 9, 0, 0, 0), (0, 0, (-6), 0, 0), (19, 102, 1, 0, 0), (1, 5, 0, 0, 0), (0, 0, (-1), 0, 0), (19, 110, 1, 0, 0), (1, 9, 0, 0, 0), (0, 0, (-11), 0, 0), (19, 112, 1, 0, 0), (2, 1, 0, 0, 0), (0, 0, 1, 0, 0), (8, 0, 0, 0, 0), (0, 0, 40, 0, 0), (19, 112, 1, 0, 0), (0, 0, 1, 0, 0), (17, 113, 0, 0, 0), (0, 0, 0, 0, 0), (26, 0, 0, 0, 0), (2, 1, 0, 0, 0), (0, 0, 1, 0, 0), (15, 0, 0, 0, 0), (8, 0, 0, 0, 0), (0, 0, 1, 0, 0), (13, 0, 0, 0, 0), (10, 0, 0, 0, 0), (2, 1, 0, 0, 0), (0, 0, 8, 0, 0), (8, 0, 0, 0, 0), (0, 0, 1, 0, 0), (19, 151, 1, 0, 0), (1, 9, 0, 0, 0), (2, 1, 0, 0, 0), (0, 0, 1, 0, 0), (8, 0, 0, 0, 0), (0, 0, 1, 0, 0), (13, 1, 0, 0, 0), (19, 151, 1, 0, 0), (2, 0, 0, 0, 0), (1, 9, 0, 0, 0), (21, 156, 11, 74, 927), (18, 151, 0, 0, 0), (2, 0, 0, 0, 0), (1, 9, 0, 0, 0), (21, 155, 11, 142, 932), (1, 8, 0, 0, 0), (19, 151, 1, 0, 0), (1, 5, 0, 0, 0), (0, 0, (-1), 0, 0), (19, 149, 0, 0, 0), (2, 0, 0, 0, 0), (1, 5, 0, 0, 0), (21, 156, 11, 74, 927), (18, 151, 0, 0, 0), (0, 0, 1, 0, 0), (17, 152, 0, 0, 0), (0, 0, 0, 0, 0), (26, 0, 0, 0, 0)]
def z_p_L_makes : List Nat := [0, 1, 2, 3, 6, 8, 9, 10, 13, 14, 17, 18, 20, 21, 22, 25, 26, 28, 29, 30, 32, 34, 36, 39, 40, 43, 45, 46, 47, 48, 50, 52, 54, 55, 56, 57, 60, 61, 63, 65, 66, 68, 69, 70, 73, 74, 76, 77, 79, 80, 82, 83, 84, 85, 87, 89, 90, 93, 94, 96, 98, 100, 101, 102, 105, 106, 108, 109, 110, 112, 113, 114, 117, 118, 121, 122, 125, 127, 129, 132, 133, 135, 136, 139, 141, 143, 146, 147, 150, 151, 154, 156, 158, 161, 163, 164, 167, 169, 171, 174, 176, 177, 180, 182, 184, 187, 188, 189, 190, 192, 195, 196, 199, 200, 201, 202, 203, 204, 205, 206, 207, 208, 209, 211, 212, 213, 216, 218, 219, 220, 221, 222, 223, 226, 227, 229, 232, 235, 236, 238, 241, 243, 246, 248, 249, 252, 253, 255, 258, 261, 262, 265, 266, 267]
def z_c_L_dies : List zI := [(2, 0, 0, 0, 0), (1, 2, 0, 0, 0), (21, 156, 11, 74, 927), (3, 4, 0, 0, 0), (1, 3, 0, 0, 0), (0, 0, 4, 0, 0), (13, 4, 0, 0, 0), (18, 23, 5, 0, 0), (2, 0, 0, 0, 0), (1, 2, 0, 0, 0), (21, 155, 11, 142, 932), (0, 0, (-1), 0, 0), (19, 21, 2, 0, 0), (2, 0, 0, 0, 0), (1, 2, 0, 0, 0), (21, 155, 11, 142, 932), (18, 19, 1, 0, 0), (1, 4, 0, 0, 0), (18, 21, 1, 0, 0), (0, 0, 1, 0, 0), (17, 22, 0, 0, 0), (0, 0, 0, 0, 0), (26, 0, 0, 0, 0), (2, 0, 0, 0, 0), (1, 2, 0, 0, 0), (21, 154, 11, 149, 954), (3, 5, 0, 0, 0), (1, 4, 0, 0, 0), (18, 38, 0, 0, 0), (1, 5, 0, 0, 0), (0, 0, 1, 0, 0), (19, 50, 2, 0, 0), (1, 5, 0, 0, 0), (2, 1, 0, 0, 0), (0, 0, 1, 0, 0), (8, 0, 0, 0, 0), (19, 50, 4, 0, 0), (17, 40, 0, 0, 0), (1, 5, 0, 0, 0), (18, 50, 1, 0, 0), (2, 0, 0, 0, 0), (1, 2, 0, 0, 0), (21, 156, 11, 74, 927), (18, 50, 1, 0, 0), (2, 0, 0, 0, 0), (1, 2, 0, 0, 0), (21, 154, 11, 149, 954), (18, 50, 1, 0, 0), (0, 0, 1, 0, 0), (17, 51, 0, 0, 0), (0, 0, 0, 0, 0), (26, 0, 0, 0, 0)]
def z_p_L_dies : List Nat := [0, 1, 2, 5, 7, 8, 9, 10, 13, 14, 15, 18, 19, 22, 23, 24, 27, 30, 32, 35, 36, 39, 40, 41, 42, 43, 46, 48, 50, 53, 55, 56, 59, 61, 62, 63, 64, 67, 70, 72, 75, 76, 77, 80, 83, 84, 85, 88, 91, 92, 95, 96, 97]
def z_c_L_values_0 : List zI := [(2, 2, 0, 0, 0), (1, 5, 0, 0, 0), (0, 0, 36, 0, 0), (13, 3, 0, 0, 0), (8, 0, 0, 0, 0), (0, 0, 1, 0, 0), (19, 9, 1, 0, 0), (0, 0, 1, 0, 0), (17, 10, 0, 0, 0), (0, 0, 0, 0, 0), (3, 7, 0, 0, 0), (2, 0, 0, 0, 0), (1, 3, 0, 0, 0), (1, 4, 0, 0, 0), (1, 5, 0, 0, 0), (1, 6, 0, 0, 0), (0, 0, 10000, 0, 0), (13, 4, 0, 0, 0), (0, 0, (-1), 0, 0), (21, 159, 11, 152, 980), (3, 8, 0, 0, 0), (1, 8, 0, 0, 0), (18, 41, 4, 0, 0), (1, 8, 0, 0, 0), (0, 0, (-1), 0, 0), (19, 39, 3, 0, 0), (1, 8, 0, 0, 0), (0, 0, (-14), 0, 0), (19, 39, 5, 0, 0), (2, 1, 0, 0, 0), (0, 0, 8, 0, 0), (8, 0, 0, 0, 0), (0, 0, 1, 0, 0), (19, 37, 0, 0, 0), (1, 8, 0, 0, 0), (0, 0, (-2), 0, 0), (19, 39, 1, 0, 0), (0, 0, 1, 0, 0), (17, 40, 0, 0, 0), (0, 0, 0, 0, 0), (26, 0, 0, 0, 0), (1, 7, 0, 0, 0), (18, 72, 0, 0, 0), (2, 1, 0, 0, 0), (0, 0, 8, 0, 0), (8, 0, 0, 0, 0), (0, 0, 1, 0, 0), (19, 72, 1, 0, 0), (2, 0, 0, 0, 0), (1, 5, 0, 0, 0), (0, 0, 0, 0, 0), (21, 161, 11, 100, 1028), (2, 0, 0, 0, 0), (21, 142, 11, 21, 563), (19, 72, 1, 0, 0), (2, 0, 0, 0, 0), (1, 5, 0, 0, 0), (1, 8, 0, 0, 0), (21, 161, 11, 100, 1028), (2, 0, 0, 0, 0), (21, 142, 11, 21, 563), (19, 72, 1, 0, 0), (2, 0, 0, 0, 0), (1, 5, 0, 0, 0), (1, 8, 0, 0, 0), (0, 0, 1, 0, 0), (13, 0, 0, 0, 0), (21, 161, 11, 100, 1028), (0, 0, (-1), 0, 0), (19, 72, 1, 0, 0), (0, 0, 1, 0, 0), (17, 73, 0, 0, 0), (0, 0, 0, 0, 0), (3, 9, 0, 0, 0), (2, 0, 0, 0, 0), (1, 3, 0, 0, 0), (1, 4, 0, 0, 0), (1, 5, 0, 0, 0), (1, 6, 0, 0, 0), (0, 0, 2, 0, 0), (13, 4, 0, 0, 0), (18, 84, 1, 0, 0), (0, 0, 0, 0, 0), (17, 85, 0, 0, 0), (1, 8, 0, 0, 0), (21, 158, 11, 56, 734), (3, 10, 0, 0, 0), (2, 1, 0, 0, 0), (0, 0, 4, 0, 0), (2, 0, 0, 0, 0), (21, 174, 11, 71, 958), (10, 0, 0, 0, 0), (1, 9, 0, 0, 0), (18, 104, 0, 0, 0), (1, 10, 0, 0, 0), (1, 6, 0, 0, 0), (0, 0, 10000, 0, 0), (13, 4, 0, 0, 0), (19, 102, 0, 0, 0), (1, 10, 0, 0, 0), (0, 0, (-1), 0, 0), (19, 104, 3, 0, 0), (0, 0, 1, 0, 0), (17, 105, 0, 0, 0), (0, 0, 0, 0, 0), (3, 9, 0, 0, 0), (2, 0, 0, 0, 0), (1, 3, 0, 0, 0), (1, 5, 0, 0, 0), (1, 8, 0, 0, 0), (21, 183, 11, 156, 1041), (3, 11, 0, 0, 0), (1, 9, 0, 0, 0), (18, 135, 0, 0, 0), (1, 11, 0, 0, 0), (0, 0, (-1), 0, 0), (19, 122, 2, 0, 0), (1, 11, 0, 0, 0), (1, 6, 0, 0, 0), (0, 0, 10000, 0, 0), (13, 4, 0, 0, 0), (19, 135, 1, 0, 0), (2, 0, 0, 0, 0), (1, 3, 0, 0, 0), (1, 4, 0, 0, 0), (1, 5, 0, 0, 0), (0, 0, 5, 0, 0), (1, 8, 0, 0, 0), (0, 0, 1, 0, 0), (13, 1, 0, 0, 0), (21, 159, 11, 152, 980), (0, 0, (-1), 0, 0), (19, 135, 3, 0, 0), (0, 0, 1, 0, 0), (17, 136, 0, 0, 0), (0, 0, 0, 0, 0), (3, 9, 0, 0, 0), (1, 6, 0, 0, 0), (0, 0, 3, 0, 0), (13, 4, 0, 0, 0), (18, 143, 5, 0, 0), (1, 9, 0, 0, 0), (26, 0, 0, 0, 0), (2, 0, 0, 0, 0), (1, 3, 0, 0, 0), (1, 4, 0, 0, 0), (1, 5, 0, 0, 0), (0, 0, 0, 0, 0), (1, 6, 0, 0, 0), (0, 0, 3, 0, 0)]
def z_c_L_values_1 : List zI := [(13, 3, 0, 0, 0), (0, 0, 3, 0, 0), (13, 4, 0, 0, 0), (21, 160, 11, 159, 1049), (3, 12, 0, 0, 0), (1, 12, 0, 0, 0), (18, 166, 3, 0, 0), (1, 9, 0, 0, 0), (18, 164, 0, 0, 0), (1, 12, 0, 0, 0), (0, 0, (-1), 0, 0), (19, 164, 3, 0, 0), (0, 0, 1, 0, 0), (17, 165, 0, 0, 0), (0, 0, 0, 0, 0), (26, 0, 0, 0, 0), (2, 0, 0, 0, 0), (1, 3, 0, 0, 0), (1, 4, 0, 0, 0), (1, 5, 0, 0, 0), (1, 8, 0, 0, 0), (21, 158, 11, 56, 734), (3, 10, 0, 0, 0), (2, 1, 0, 0, 0), (0, 0, 4, 0, 0), (2, 0, 0, 0, 0), (21, 174, 11, 71, 958), (10, 0, 0, 0, 0), (1, 9, 0, 0, 0), (18, 231, 0, 0, 0), (1, 12, 0, 0, 0), (18, 231, 1, 0, 0), (1, 10, 0, 0, 0), (0, 0, (-1), 0, 0), (19, 191, 2, 0, 0), (1, 6, 0, 0, 0), (0, 0, 3, 0, 0), (13, 3, 0, 0, 0), (0, 0, 3, 0, 0), (13, 4, 0, 0, 0), (18, 231, 1, 0, 0), (2, 0, 0, 0, 0), (1, 5, 0, 0, 0), (1, 8, 0, 0, 0), (21, 161, 11, 100, 1028), (0, 0, (-1), 0, 0), (19, 199, 1, 0, 0), (0, 0, 1, 0, 0), (17, 200, 0, 0, 0), (0, 0, 0, 0, 0), (1, 6, 0, 0, 0), (0, 0, 3, 0, 0), (13, 3, 0, 0, 0), (0, 0, 3, 0, 0), (13, 4, 0, 0, 0), (0, 0, 2, 0, 0), (19, 209, 1, 0, 0), (0, 0, 1, 0, 0), (17, 210, 0, 0, 0), (0, 0, 0, 0, 0), (19, 231, 1, 0, 0), (2, 0, 0, 0, 0), (1, 3, 0, 0, 0), (1, 4, 0, 0, 0), (1, 5, 0, 0, 0), (1, 8, 0, 0, 0), (0, 0, 0, 0, 0), (21, 160, 11, 159, 1049), (1, 6, 0, 0, 0), (0, 0, 3, 0, 0), (13, 3, 0, 0, 0), (0, 0, 3, 0, 0), (13, 4, 0, 0, 0), (0, 0, 2, 0, 0), (19, 227, 1, 0, 0), (0, 0, (-1), 0, 0), (17, 228, 0, 0, 0), (0, 0, 3, 0, 0), (19, 231, 3, 0, 0), (0, 0, 1, 0, 0), (17, 232, 0, 0, 0), (0, 0, 0, 0, 0), (26, 0, 0, 0, 0)]
def z_c_L_values : List zI := z_c_L_values_0 ++ (z_c_L_values_1)
def z_p_L_values_0 : List Nat := [0, 1, 3, 5, 6, 7, 8, 11, 12, 15, 16, 18, 19, 20, 22, 24, 26, 29, 30, 31, 34, 36, 38, 41, 43, 44, 47, 49, 51, 54, 55, 57, 58, 59, 62, 64, 66, 69, 70, 73, 74, 75, 77, 80, 81, 83, 84, 85, 88, 89, 91, 92, 95, 96, 99, 102, 103, 105, 107, 110, 111, 114, 117, 118, 120, 122, 123, 124, 127, 128, 131, 132, 135, 136, 138, 139, 140, 142, 144, 146, 147, 148, 151, 152, 155, 157, 160, 162, 163, 164, 165, 168, 169, 171, 174, 176, 178, 181, 182, 185, 187, 188, 191, 192, 195, 196, 198, 199, 200, 202, 204, 207, 209, 211, 214, 216, 217, 220, 222, 224, 227, 228, 231, 232, 233, 235, 237, 238, 240, 241, 242, 245, 246, 249, 250, 253, 254, 256, 258, 259, 260, 263, 265, 266, 267, 268, 270, 272, 273, 275]
def z_p_L_values_1 : List Nat := [276, 277, 278, 279, 282, 284, 286, 289, 291, 294, 296, 297, 300, 301, 304, 305, 306, 307, 308, 310, 312, 314, 317, 319, 320, 321, 322, 325, 326, 328, 331, 333, 336, 338, 339, 342, 344, 345, 346, 347, 348, 351, 352, 354, 356, 359, 360, 363, 364, 367, 368, 370, 371, 372, 373, 374, 375, 378, 379, 382, 383, 386, 387, 388, 390, 392, 394, 395, 398, 400, 401, 402, 403, 404, 405, 408, 409, 412, 413, 416, 417, 420, 421, 422]
def z_p_L_values : List Nat := z_p_L_values_0 ++ (z_p_L_values_1)
def z_c_L_credentials_0 : List zI := [(0, 0, 1, 0, 0), (1, 6, 0, 0, 0), (0, 0, 50, 0, 0), (13, 4, 0, 0, 0), (13, 0, 0, 0, 0), (3, 7, 0, 0, 0), (2, 0, 0, 0, 0), (1, 3, 0, 0, 0), (1, 4, 0, 0, 0), (1, 5, 0, 0, 0), (1, 7, 0, 0, 0), (1, 7, 0, 0, 0), (1, 6, 0, 0, 0), (0, 0, 64, 0, 0), (13, 3, 0, 0, 0), (0, 0, 101, 0, 0), (1, 7, 0, 0, 0), (13, 1, 0, 0, 0), (13, 4, 0, 0, 0), (13, 0, 0, 0, 0), (21, 163, 11, 162, 1068), (3, 8, 0, 0, 0), (0, 0, 1, 0, 0), (3, 9, 0, 0, 0), (1, 8, 0, 0, 0), (18, 81, 2, 0, 0), (2, 1, 0, 0, 0), (0, 0, 2, 0, 0), (15, 0, 0, 0, 0), (8, 0, 0, 0, 0), (0, 0, 1, 0, 0), (13, 0, 0, 0, 0), (10, 0, 0, 0, 0), (2, 1, 0, 0, 0), (0, 0, 8, 0, 0), (8, 0, 0, 0, 0), (0, 0, 1, 0, 0), (19, 78, 1, 0, 0), (2, 2, 0, 0, 0), (1, 5, 0, 0, 0), (0, 0, 36, 0, 0), (13, 3, 0, 0, 0), (8, 0, 0, 0, 0), (0, 0, 2, 0, 0), (19, 78, 1, 0, 0), (1, 8, 0, 0, 0), (2, 1, 0, 0, 0), (0, 0, 2, 0, 0), (8, 0, 0, 0, 0), (0, 0, 1, 0, 0), (13, 1, 0, 0, 0), (19, 78, 1, 0, 0), (2, 0, 0, 0, 0), (1, 8, 0, 0, 0), (21, 167, 11, 165, 1101), (2, 1, 0, 0, 0), (0, 0, 0, 0, 0), (8, 0, 0, 0, 0), (1, 7, 0, 0, 0), (13, 0, 0, 0, 0), (19, 78, 4, 0, 0), (2, 0, 0, 0, 0), (1, 8, 0, 0, 0), (21, 166, 11, 168, 1113), (18, 76, 4, 0, 0), (2, 0, 0, 0, 0), (1, 3, 0, 0, 0), (21, 156, 11, 74, 927), (18, 78, 0, 0, 0), (2, 0, 0, 0, 0), (1, 8, 0, 0, 0), (21, 167, 11, 165, 1101), (2, 1, 0, 0, 0), (0, 0, 0, 0, 0), (8, 0, 0, 0, 0), (19, 78, 5, 0, 0), (0, 0, 1, 0, 0), (17, 79, 0, 0, 0), (0, 0, 0, 0, 0), (3, 9, 0, 0, 0), (17, 91, 0, 0, 0), (1, 8, 0, 0, 0), (0, 0, (-1), 0, 0), (19, 89, 3, 0, 0), (1, 8, 0, 0, 0), (0, 0, (-14), 0, 0), (19, 89, 5, 0, 0), (0, 0, 1, 0, 0), (17, 90, 0, 0, 0), (0, 0, 0, 0, 0), (3, 9, 0, 0, 0), (2, 1, 0, 0, 0), (0, 0, 2, 0, 0), (8, 0, 0, 0, 0), (18, 153, 5, 0, 0), (1, 9, 0, 0, 0), (18, 153, 0, 0, 0), (1, 6, 0, 0, 0), (2, 1, 0, 0, 0), (0, 0, 2, 0, 0), (8, 0, 0, 0, 0), (13, 4, 0, 0, 0), (3, 10, 0, 0, 0), (2, 0, 0, 0, 0), (1, 10, 0, 0, 0), (21, 166, 11, 168, 1113), (3, 11, 0, 0, 0), (2, 0, 0, 0, 0), (1, 10, 0, 0, 0), (1, 7, 0, 0, 0), (21, 164, 11, 171, 1121), (3, 12, 0, 0, 0), (2, 1, 0, 0, 0), (0, 0, 8, 0, 0), (8, 0, 0, 0, 0), (18, 123, 1, 0, 0), (1, 12, 0, 0, 0), (0, 0, (-2), 0, 0), (19, 121, 1, 0, 0), (0, 0, 1, 0, 0), (17, 152, 0, 0, 0), (0, 0, 0, 0, 0), (17, 152, 0, 0, 0), (1, 11, 0, 0, 0), (18, 146, 1, 0, 0), (1, 12, 0, 0, 0), (2, 1, 0, 0, 0), (0, 0, 0, 0, 0), (8, 0, 0, 0, 0), (19, 144, 5, 0, 0), (1, 12, 0, 0, 0), (2, 1, 0, 0, 0), (0, 0, 0, 0, 0), (8, 0, 0, 0, 0), (1, 7, 0, 0, 0), (13, 0, 0, 0, 0), (19, 144, 4, 0, 0), (2, 0, 0, 0, 0), (1, 10, 0, 0, 0), (21, 167, 11, 165, 1101), (1, 12, 0, 0, 0), (19, 144, 1, 0, 0), (0, 0, 1, 0, 0), (17, 152, 0, 0, 0), (0, 0, 0, 0, 0), (17, 152, 0, 0, 0), (1, 12, 0, 0, 0), (0, 0, (-7), 0, 0), (19, 151, 1, 0, 0), (0, 0, 1, 0, 0)]
def z_c_L_credentials_1 : List zI := [(17, 152, 0, 0, 0), (0, 0, 0, 0, 0), (3, 9, 0, 0, 0), (1, 6, 0, 0, 0), (0, 0, 7, 0, 0), (13, 4, 0, 0, 0), (18, 203, 1, 0, 0), (1, 9, 0, 0, 0), (18, 203, 0, 0, 0), (2, 0, 0, 0, 0), (1, 5, 0, 0, 0), (0, 0, 36, 0, 0), (13, 3, 0, 0, 0), (1, 6, 0, 0, 0), (0, 0, 2, 0, 0), (13, 4, 0, 0, 0), (18, 169, 1, 0, 0), (0, 0, (-1), 0, 0), (17, 174, 0, 0, 0), (1, 5, 0, 0, 0), (0, 0, 6, 0, 0), (13, 3, 0, 0, 0), (0, 0, 6, 0, 0), (13, 4, 0, 0, 0), (21, 165, 11, 103, 1134), (3, 10, 0, 0, 0), (1, 10, 0, 0, 0), (18, 201, 2, 0, 0), (1, 10, 0, 0, 0), (2, 1, 0, 0, 0), (0, 0, 2, 0, 0), (8, 0, 0, 0, 0), (19, 201, 4, 0, 0), (2, 0, 0, 0, 0), (1, 5, 0, 0, 0), (0, 0, 36, 0, 0), (13, 3, 0, 0, 0), (1, 5, 0, 0, 0), (0, 0, 6, 0, 0), (13, 3, 0, 0, 0), (0, 0, 6, 0, 0), (13, 4, 0, 0, 0), (21, 165, 11, 103, 1134), (2, 1, 0, 0, 0), (0, 0, 2, 0, 0), (8, 0, 0, 0, 0), (1, 10, 0, 0, 0), (13, 1, 0, 0, 0), (19, 201, 4, 0, 0), (0, 0, 1, 0, 0), (17, 202, 0, 0, 0), (0, 0, 0, 0, 0), (3, 9, 0, 0, 0), (1, 9, 0, 0, 0), (26, 0, 0, 0, 0)]
def z_c_L_credentials : List zI := z_c_L_credentials_0 ++ (z_c_L_credentials_1)
def z_p_L_credentials_0 : List Nat := [0, 1, 3, 5, 6, 7, 9, 10, 11, 13, 15, 17, 19, 21, 23, 24, 26, 28, 29, 30, 31, 34, 36, 37, 39, 41, 44, 45, 46, 47, 48, 49, 50, 51, 52, 54, 55, 56, 59, 60, 62, 64, 65, 66, 67, 70, 72, 73, 74, 75, 76, 77, 80, 81, 83, 86, 87, 88, 89, 91, 92, 95, 96, 98, 101, 104, 105, 106, 109, 112, 113, 115, 118, 119, 120, 121, 124, 125, 128, 129, 131, 134, 136, 137, 140, 142, 144, 147, 148, 151, 152, 154, 155, 156, 157, 160, 162, 165, 167, 168, 169, 170, 171, 173, 174, 176, 179, 181, 182, 184, 186, 189, 191, 192, 194, 195, 198, 200, 202, 205, 206, 209, 210, 213, 215, 218, 220, 221, 222, 223, 226, 228, 229, 230, 231, 233, 234, 237, 238, 240, 243, 245, 248, 249, 252, 253, 256, 258, 260, 263]
def z_p_L_credentials_1 : List Nat := [264, 267, 268, 270, 272, 274, 275, 278, 280, 283, 284, 286, 288, 289, 291, 292, 293, 296, 297, 300, 302, 304, 305, 307, 308, 311, 313, 315, 318, 320, 321, 322, 323, 326, 327, 329, 331, 332, 334, 336, 337, 339, 340, 343, 344, 345, 346, 348, 349, 352, 353, 356, 357, 359, 361, 362]
def z_p_L_credentials : List Nat := z_p_L_credentials_0 ++ (z_p_L_credentials_1)
def z_c_L_wraps : List zI := [(2, 0, 0, 0, 0), (1, 2, 0, 0, 0), (1, 3, 0, 0, 0), (1, 4, 0, 0, 0), (0, 0, 0, 0, 0), (21, 170, 11, 174, 1149), (3, 5, 0, 0, 0), (2, 1, 0, 0, 0), (0, 0, 4, 0, 0), (2, 0, 0, 0, 0), (21, 174, 11, 71, 958), (10, 0, 0, 0, 0), (1, 5, 0, 0, 0), (18, 41, 3, 0, 0), (1, 5, 0, 0, 0), (0, 0, (-1), 0, 0), (19, 39, 3, 0, 0), (1, 5, 0, 0, 0), (0, 0, (-14), 0, 0), (19, 39, 5, 0, 0), (2, 1, 0, 0, 0), (0, 0, 3, 0, 0), (8, 0, 0, 0, 0), (18, 37, 0, 0, 0), (2, 1, 0, 0, 0), (0, 0, 8, 0, 0), (8, 0, 0, 0, 0), (18, 37, 0, 0, 0), (2, 0, 0, 0, 0), (2, 1, 0, 0, 0), (0, 0, 3, 0, 0), (8, 0, 0, 0, 0), (0, 0, 1, 0, 0), (13, 1, 0, 0, 0), (21, 171, 11, 177, 1157), (0, 0, (-7), 0, 0), (19, 39, 2, 0, 0), (0, 0, 1, 0, 0), (17, 40, 0, 0, 0), (0, 0, 0, 0, 0), (26, 0, 0, 0, 0), (2, 1, 0, 0, 0), (0, 0, 3, 0, 0), (15, 0, 0, 0, 0), (8, 0, 0, 0, 0), (0, 0, 1, 0, 0), (13, 0, 0, 0, 0), (10, 0, 0, 0, 0), (2, 0, 0, 0, 0), (1, 5, 0, 0, 0), (21, 171, 11, 177, 1157), (3, 6, 0, 0, 0), (1, 5, 0, 0, 0), (2, 1, 0, 0, 0), (0, 0, 3, 0, 0), (8, 0, 0, 0, 0), (0, 0, 1, 0, 0), (13, 1, 0, 0, 0), (19, 71, 1, 0, 0), (1, 6, 0, 0, 0), (18, 71, 2, 0, 0), (1, 6, 0, 0, 0), (0, 0, 10000, 0, 0), (19, 71, 3, 0, 0), (2, 0, 0, 0, 0), (1, 5, 0, 0, 0), (21, 171, 11, 177, 1157), (0, 0, (-7), 0, 0), (19, 71, 1, 0, 0), (0, 0, 1, 0, 0), (17, 72, 0, 0, 0), (0, 0, 0, 0, 0), (26, 0, 0, 0, 0)]
def z_p_L_wraps : List Nat := [0, 1, 2, 3, 5, 6, 9, 11, 12, 13, 14, 17, 18, 20, 23, 25, 26, 29, 31, 33, 36, 37, 38, 39, 42, 43, 45, 46, 49, 50, 51, 52, 53, 54, 55, 58, 60, 63, 64, 67, 68, 69, 70, 71, 72, 73, 74, 75, 76, 77, 79, 82, 84, 86, 87, 88, 89, 90, 91, 94, 96, 99, 101, 104, 107, 108, 110, 113, 115, 118, 119, 122, 123, 124]
def z_c_L_cases : List zI := [(0, 0, 1, 0, 0), (3, 6, 0, 0, 0), (1, 5, 0, 0, 0), (0, 0, 3, 0, 0), (13, 4, 0, 0, 0), (18, 44, 5, 0, 0), (2, 0, 0, 0, 0), (1, 2, 0, 0, 0), (1, 3, 0, 0, 0), (1, 4, 0, 0, 0), (21, 172, 11, 180, 1172), (3, 7, 0, 0, 0), (2, 0, 0, 0, 0), (1, 2, 0, 0, 0), (1, 3, 0, 0, 0), (1, 4, 0, 0, 0), (21, 172, 11, 180, 1172), (3, 8, 0, 0, 0), (1, 7, 0, 0, 0), (0, 0, (-1), 0, 0), (19, 28, 3, 0, 0), (1, 7, 0, 0, 0), (0, 0, (-14), 0, 0), (19, 26, 5, 0, 0), (0, 0, 1, 0, 0), (17, 43, 0, 0, 0), (0, 0, 0, 0, 0), (17, 43, 0, 0, 0), (1, 7, 0, 0, 0), (0, 0, 1, 0, 0), (19, 42, 2, 0, 0), (1, 7, 0, 0, 0), (0, 0, 8, 0, 0), (19, 42, 4, 0, 0), (1, 8, 0, 0, 0), (1, 7, 0, 0, 0), (19, 40, 0, 0, 0), (1, 8, 0, 0, 0), (0, 0, (-1), 0, 0), (19, 42, 3, 0, 0), (0, 0, 1, 0, 0), (17, 43, 0, 0, 0), (0, 0, 0, 0, 0), (3, 6, 0, 0, 0), (2, 0, 0, 0, 0), (1, 2, 0, 0, 0), (1, 3, 0, 0, 0), (1, 4, 0, 0, 0), (21, 173, 11, 183, 1206), (3, 7, 0, 0, 0), (1, 6, 0, 0, 0), (18, 78, 0, 0, 0), (1, 7, 0, 0, 0), (0, 0, (-1), 0, 0), (19, 58, 3, 0, 0), (1, 7, 0, 0, 0), (0, 0, (-14), 0, 0), (19, 70, 4, 0, 0), (1, 7, 0, 0, 0), (18, 78, 2, 0, 0), (1, 7, 0, 0, 0), (0, 0, 10000, 0, 0), (19, 78, 3, 0, 0), (2, 0, 0, 0, 0), (1, 2, 0, 0, 0), (1, 3, 0, 0, 0), (1, 4, 0, 0, 0), (21, 173, 11, 183, 1206), (0, 0, (-1), 0, 0), (19, 78, 3, 0, 0), (2, 0, 0, 0, 0), (21, 174, 11, 71, 958), (2, 1, 0, 0, 0), (0, 0, 4, 0, 0), (8, 0, 0, 0, 0), (19, 78, 1, 0, 0), (0, 0, 1, 0, 0), (17, 79, 0, 0, 0), (0, 0, 0, 0, 0), (26, 0, 0, 0, 0)]
def z_p_L_cases : List Nat := [0, 1, 3, 5, 6, 7, 10, 11, 12, 13, 15, 18, 20, 21, 22, 23, 25, 28, 30, 32, 33, 36, 38, 40, 43, 44, 47, 48, 51, 53, 54, 57, 59, 61, 64, 66, 68, 71, 73, 74, 77, 78, 81, 82, 84, 85, 86, 87, 89, 92, 94, 96, 99, 101, 102, 105, 107, 109, 112, 114, 117, 119, 122, 125, 126, 127, 128, 130, 133, 134, 137, 138, 141, 142, 143, 144, 147, 148, 151, 152, 153]
def z_c_L_certificates : List zI := [(2, 0, 0, 0, 0), (1, 2, 0, 0, 0), (1, 3, 0, 0, 0), (1, 4, 0, 0, 0), (1, 5, 0, 0, 0), (21, 175, 11, 186, 1226), (3, 6, 0, 0, 0), (1, 6, 0, 0, 0), (18, 22, 3, 0, 0), (1, 6, 0, 0, 0), (0, 0, (-1), 0, 0), (19, 20, 3, 0, 0), (1, 6, 0, 0, 0), (0, 0, (-14), 0, 0), (19, 20, 5, 0, 0), (2, 0, 0, 0, 0), (21, 177, 11, 189, 1251), (18, 20, 2, 0, 0), (0, 0, 1, 0, 0), (17, 21, 0, 0, 0), (0, 0, 0, 0, 0), (26, 0, 0, 0, 0), (2, 1, 0, 0, 0), (0, 0, 5, 0, 0), (15, 0, 0, 0, 0), (8, 0, 0, 0, 0), (0, 0, 1, 0, 0), (13, 0, 0, 0, 0), (10, 0, 0, 0, 0), (1, 6, 0, 0, 0), (2, 1, 0, 0, 0), (0, 0, 5, 0, 0), (8, 0, 0, 0, 0), (0, 0, 1, 0, 0), (13, 1, 0, 0, 0), (19, 56, 1, 0, 0), (2, 0, 0, 0, 0), (1, 6, 0, 0, 0), (21, 178, 11, 192, 1259), (18, 56, 0, 0, 0), (2, 0, 0, 0, 0), (1, 6, 0, 0, 0), (21, 179, 11, 195, 1283), (1, 6, 0, 0, 0), (19, 56, 4, 0, 0), (1, 4, 0, 0, 0), (0, 0, 6, 0, 0), (13, 4, 0, 0, 0), (18, 54, 1, 0, 0), (2, 0, 0, 0, 0), (1, 6, 0, 0, 0), (21, 179, 11, 195, 1283), (1, 6, 0, 0, 0), (19, 56, 1, 0, 0), (0, 0, 1, 0, 0), (17, 57, 0, 0, 0), (0, 0, 0, 0, 0), (3, 7, 0, 0, 0), (1, 5, 0, 0, 0), (0, 0, 3, 0, 0), (13, 4, 0, 0, 0), (18, 64, 5, 0, 0), (1, 7, 0, 0, 0), (26, 0, 0, 0, 0), (1, 7, 0, 0, 0), (18, 88, 0, 0, 0), (2, 0, 0, 0, 0), (1, 6, 0, 0, 0), (21, 176, 11, 198, 1291), (18, 88, 0, 0, 0), (2, 0, 0, 0, 0), (1, 6, 0, 0, 0), (21, 176, 11, 198, 1291), (18, 88, 1, 0, 0), (2, 0, 0, 0, 0), (1, 6, 0, 0, 0), (21, 178, 11, 192, 1259), (18, 88, 0, 0, 0), (2, 0, 0, 0, 0), (21, 177, 11, 189, 1251), (0, 0, 1, 0, 0), (19, 88, 2, 0, 0), (2, 0, 0, 0, 0), (1, 6, 0, 0, 0), (21, 178, 11, 192, 1259), (18, 88, 1, 0, 0), (0, 0, 1, 0, 0), (17, 89, 0, 0, 0), (0, 0, 0, 0, 0), (26, 0, 0, 0, 0)]
def z_p_L_certificates : List Nat := [0, 1, 2, 3, 5, 7, 10, 12, 14, 17, 19, 20, 23, 25, 27, 30, 31, 34, 37, 38, 41, 42, 43, 44, 45, 46, 47, 48, 49, 50, 52, 53, 54, 55, 56, 57, 60, 61, 63, 66, 69, 70, 72, 75, 77, 80, 82, 84, 85, 88, 89, 91, 94, 96, 99, 100, 103, 104, 106, 108, 109, 110, 113, 115, 116, 118, 121, 122, 124, 127, 130, 131, 133, 136, 139, 140, 142, 145, 148, 149, 152, 153, 156, 157, 159, 162, 165, 166, 169, 170, 171]
def z_c_L_people : List zI := [(1, 1, 0, 0, 0), (0, 0, 8, 0, 0), (13, 4, 0, 0, 0), (3, 3, 0, 0, 0), (1, 2, 0, 0, 0), (0, 0, 4, 0, 0), (13, 4, 0, 0, 0), (3, 4, 0, 0, 0), (1, 1, 0, 0, 0), (0, 0, 8, 0, 0), (13, 3, 0, 0, 0), (0, 0, 4, 0, 0), (13, 4, 0, 0, 0), (36, 2, 0, 0, 0), (1, 2, 0, 0, 0), (0, 0, 4, 0, 0), (13, 3, 0, 0, 0), (0, 0, 2, 0, 0), (13, 4, 0, 0, 0), (18, 22, 1, 0, 0), (0, 0, 1, 0, 0), (17, 23, 0, 0, 0), (0, 0, 0, 0, 0), (3, 5, 0, 0, 0), (2, 0, 0, 0, 0), (1, 4, 0, 0, 0), (1, 2, 0, 0, 0), (0, 0, 8, 0, 0), (13, 3, 0, 0, 0), (0, 0, 2, 0, 0), (13, 4, 0, 0, 0), (18, 34, 1, 0, 0), (0, 0, 1, 0, 0), (17, 35, 0, 0, 0), (0, 0, 0, 0, 0), (1, 1, 0, 0, 0), (0, 0, 64, 0, 0), (13, 3, 0, 0, 0), (0, 0, 4, 0, 0), (13, 4, 0, 0, 0), (1, 5, 0, 0, 0), (21, 150, 11, 201, 1374), (3, 6, 0, 0, 0), (2, 0, 0, 0, 0), (1, 4, 0, 0, 0), (1, 2, 0, 0, 0), (0, 0, 8, 0, 0), (13, 3, 0, 0, 0), (0, 0, 2, 0, 0), (13, 4, 0, 0, 0), (18, 53, 1, 0, 0), (0, 0, 1, 0, 0), (17, 54, 0, 0, 0), (0, 0, 0, 0, 0), (1, 1, 0, 0, 0), (0, 0, 64, 0, 0), (13, 3, 0, 0, 0), (0, 0, 4, 0, 0), (13, 4, 0, 0, 0), (1, 5, 0, 0, 0), (21, 150, 11, 201, 1374), (1, 5, 0, 0, 0), (19, 88, 1, 0, 0), (1, 6, 0, 0, 0), (18, 86, 1, 0, 0), (2, 0, 0, 0, 0), (1, 4, 0, 0, 0), (1, 2, 0, 0, 0), (0, 0, 8, 0, 0), (13, 3, 0, 0, 0), (0, 0, 2, 0, 0), (13, 4, 0, 0, 0), (18, 75, 1, 0, 0), (0, 0, 1, 0, 0), (17, 76, 0, 0, 0), (0, 0, 0, 0, 0), (1, 1, 0, 0, 0), (0, 0, 64, 0, 0), (13, 3, 0, 0, 0), (0, 0, 4, 0, 0), (13, 4, 0, 0, 0), (1, 6, 0, 0, 0), (21, 150, 11, 201, 1374), (18, 86, 0, 0, 0), (1, 5, 0, 0, 0), (18, 88, 0, 0, 0), (0, 0, 1, 0, 0), (17, 89, 0, 0, 0), (0, 0, 0, 0, 0), (26, 0, 0, 0, 0), (2, 0, 0, 0, 0), (1, 1, 0, 0, 0), (0, 0, 64, 0, 0), (13, 3, 0, 0, 0), (0, 0, 3, 0, 0), (13, 4, 0, 0, 0), (1, 2, 0, 0, 0), (0, 0, 6, 0, 0), (13, 4, 0, 0, 0), (1, 3, 0, 0, 0), (21, 148, 11, 38, 701), (3, 7, 0, 0, 0), (1, 7, 0, 0, 0), (0, 0, (-1), 0, 0), (19, 123, 2, 0, 0), (1, 7, 0, 0, 0), (0, 0, 8, 0, 0), (19, 123, 3, 0, 0), (2, 0, 0, 0, 0), (1, 1, 0, 0, 0), (0, 0, 64, 0, 0), (13, 3, 0, 0, 0), (0, 0, 3, 0, 0), (13, 4, 0, 0, 0), (1, 2, 0, 0, 0), (0, 0, 6, 0, 0), (13, 4, 0, 0, 0), (1, 3, 0, 0, 0), (21, 148, 11, 38, 701), (1, 3, 0, 0, 0), (19, 123, 1, 0, 0), (0, 0, 1, 0, 0), (17, 124, 0, 0, 0), (0, 0, 0, 0, 0), (26, 0, 0, 0, 0), (1, 3, 0, 0, 0), (0, 0, 1, 0, 0), (13, 0, 0, 0, 0), (1, 2, 0, 0, 0), (0, 0, 7, 0, 0), (13, 4, 0, 0, 0), (13, 0, 0, 0, 0), (0, 0, 8, 0, 0), (13, 4, 0, 0, 0), (3, 8, 0, 0, 0), (2, 0, 0, 0, 0), (1, 3, 0, 0, 0), (1, 8, 0, 0, 0), (21, 149, 11, 205, 1389), (3, 9, 0, 0, 0), (1, 9, 0, 0, 0), (18, 152, 2, 0, 0), (1, 9, 0, 0, 0), (0, 0, 18, 0, 0), (19, 152, 4, 0, 0), (2, 0, 0, 0, 0), (1, 3, 0, 0, 0), (1, 8, 0, 0, 0), (21, 149, 11, 205, 1389), (18, 152, 1, 0, 0), (0, 0, 1, 0, 0), (17, 153, 0, 0, 0), (0, 0, 0, 0, 0), (26, 0, 0, 0, 0), (1, 1, 0, 0, 0), (0, 0, 32, 0, 0), (13, 3, 0, 0, 0), (0, 0, 2, 0, 0), (13, 4, 0, 0, 0), (0, 0, 1, 0, 0), (13, 0, 0, 0, 0), (3, 10, 0, 0, 0), (1, 10, 0, 0, 0), (0, 0, 1, 0, 0), (19, 167, 1, 0, 0), (1, 3, 0, 0, 0), (17, 168, 0, 0, 0), (1, 4, 0, 0, 0), (3, 11, 0, 0, 0), (2, 0, 0, 0, 0), (1, 10, 0, 0, 0), (1, 11, 0, 0, 0), (1, 2, 0, 0, 0), (0, 0, 4, 0, 0), (13, 3, 0, 0, 0), (0, 0, 256, 0, 0), (13, 4, 0, 0, 0), (21, 147, 11, 42, 712), (3, 12, 0, 0, 0), (2, 0, 0, 0, 0), (1, 10, 0, 0, 0), (1, 11, 0, 0, 0), (1, 12, 0, 0, 0), (21, 147, 11, 42, 712), (1, 2, 0, 0, 0), (0, 0, 4, 0, 0), (13, 3, 0, 0, 0), (0, 0, 256, 0, 0), (13, 4, 0, 0, 0), (19, 192, 1, 0, 0), (0, 0, 1, 0, 0), (17, 193, 0, 0, 0), (0, 0, 0, 0, 0), (26, 0, 0, 0, 0)]
def z_p_L_people : List Nat := [0, 1, 3, 4, 5, 6, 7, 8, 10, 11, 13, 14, 15, 16, 44, 45, 46, 47, 48, 49, 52, 53, 56, 57, 59, 60, 62, 63, 65, 66, 67, 68, 71, 72, 75, 76, 77, 79, 80, 81, 82, 84, 87, 89, 90, 92, 93, 95, 96, 97, 98, 101, 102, 105, 106, 107, 109, 110, 111, 112, 114, 117, 119, 122, 124, 127, 128, 130, 131, 133, 134, 135, 136, 139, 140, 143, 144, 145, 147, 148, 149, 150, 152, 155, 158, 160, 163, 164, 167, 168, 169, 170, 171, 173, 174, 175, 176, 177, 179, 180, 181, 184, 186, 188, 189, 192, 194, 196, 199, 200, 201, 203, 204, 205, 206, 207, 209, 210, 211, 214, 215, 218, 219, 222, 223, 224, 225, 226, 227, 228, 230, 231, 232, 234, 235, 237, 238, 239, 241, 244, 246, 248, 251, 253, 255, 258, 259, 260, 262, 265, 268, 269, 272, 273, 274, 275, 277, 278, 279, 280, 281, 282, 284, 286, 287, 290, 291, 294, 296, 298, 299, 301, 303, 304, 305, 306, 309, 310, 313, 315, 316, 318, 320, 322, 325, 326, 327, 328, 331, 332, 335, 336, 339, 340, 341]
def z_c_L_isWhole : List zI := [(2, 0, 0, 0, 0), (21, 135, 11, 17, 555), (2, 1, 0, 0, 0), (0, 0, 8, 0, 0), (8, 0, 0, 0, 0), (0, 0, 1, 0, 0), (19, 9, 1, 0, 0), (0, 0, 1, 0, 0), (17, 10, 0, 0, 0), (0, 0, 0, 0, 0), (19, 13, 1, 0, 0), (0, 0, 1, 0, 0), (17, 14, 0, 0, 0), (0, 0, 0, 0, 0), (3, 2, 0, 0, 0), (0, 0, 0, 0, 0), (3, 3, 0, 0, 0), (1, 3, 0, 0, 0), (0, 0, 3, 0, 0), (19, 39, 3, 0, 0), (1, 2, 0, 0, 0), (18, 35, 0, 0, 0), (2, 0, 0, 0, 0), (1, 3, 0, 0, 0), (21, 168, 11, 208, 1437), (2, 0, 0, 0, 0), (1, 3, 0, 0, 0), (21, 169, 11, 210, 1445), (19, 35, 1, 0, 0), (2, 0, 0, 0, 0), (1, 3, 0, 0, 0), (21, 168, 11, 208, 1437), (18, 35, 2, 0, 0), (0, 0, 1, 0, 0), (17, 36, 0, 0, 0), (0, 0, 0, 0, 0), (3, 2, 0, 0, 0), (5, 3, 1, 0, 0), (17, 17, 0, 0, 0), (0, 0, 0, 0, 0), (3, 3, 0, 0, 0), (1, 3, 0, 0, 0), (2, 1, 0, 0, 0), (0, 0, 2, 0, 0), (8, 0, 0, 0, 0), (19, 76, 3, 0, 0), (1, 2, 0, 0, 0), (18, 76, 0, 0, 0), (2, 0, 0, 0, 0), (1, 3, 0, 0, 0), (21, 166, 11, 168, 1113), (18, 63, 1, 0, 0), (2, 0, 0, 0, 0), (1, 3, 0, 0, 0), (21, 167, 11, 165, 1101), (2, 1, 0, 0, 0), (0, 0, 0, 0, 0), (8, 0, 0, 0, 0), (19, 61, 5, 0, 0), (0, 0, 1, 0, 0), (17, 73, 0, 0, 0), (0, 0, 0, 0, 0), (17, 73, 0, 0, 0), (2, 0, 0, 0, 0), (1, 3, 0, 0, 0), (21, 167, 11, 165, 1101), (2, 1, 0, 0, 0), (0, 0, 0, 0, 0), (8, 0, 0, 0, 0), (19, 72, 4, 0, 0), (0, 0, 1, 0, 0), (17, 73, 0, 0, 0), (0, 0, 0, 0, 0), (3, 2, 0, 0, 0), (5, 3, 1, 0, 0), (17, 41, 0, 0, 0), (0, 0, 0, 0, 0), (3, 3, 0, 0, 0), (1, 3, 0, 0, 0), (2, 1, 0, 0, 0), (0, 0, 1, 0, 0), (8, 0, 0, 0, 0), (19, 99, 3, 0, 0), (1, 2, 0, 0, 0), (18, 99, 0, 0, 0), (2, 0, 0, 0, 0), (1, 3, 0, 0, 0), (21, 155, 11, 142, 932), (18, 93, 1, 0, 0), (2, 0, 0, 0, 0), (1, 3, 0, 0, 0), (21, 156, 11, 74, 927), (18, 95, 1, 0, 0), (0, 0, 1, 0, 0), (17, 96, 0, 0, 0), (0, 0, 0, 0, 0), (3, 2, 0, 0, 0), (5, 3, 1, 0, 0), (17, 78, 0, 0, 0), (1, 2, 0, 0, 0), (26, 0, 0, 0, 0)]
def z_p_L_isWhole : List Nat := [0, 1, 4, 5, 7, 8, 9, 12, 13, 16, 17, 20, 21, 24, 25, 26, 27, 28, 29, 30, 33, 34, 37, 38, 39, 42, 43, 44, 47, 50, 51, 52, 55, 58, 59, 62, 63, 64, 67, 70, 71, 72, 73, 74, 75, 76, 79, 80, 83, 84, 85, 88, 91, 92, 93, 96, 97, 98, 99, 102, 103, 106, 107, 110, 111, 112, 115, 116, 117, 118, 121, 122, 125, 126, 127, 130, 133, 134, 135, 136, 137, 138, 139, 142, 143, 146, 147, 148, 151, 154, 155, 156, 159, 162, 163, 166, 167, 168, 171, 174, 175, 176]
def z_c_L_law : List zI := [(99, 0, 0, 0, 0), (14, 0, 0, 0, 0), (99, 0, 0, 0, 0), (4, 1, 0, 0, 0), (0, 0, 9, 0, 0), (99, 0, 0, 0, 0), (4, 2, 0, 0, 0), (0, 0, 12, 0, 0), (99, 0, 0, 0, 0), (4, 3, 0, 0, 0), (2, 1, 0, 0, 0), (2, 2, 0, 0, 0), (2, 3, 0, 0, 0), (2, 0, 0, 0, 0), (0, 0, 0, 0, 0), (22, 324, 0, 214, 418), (22, 325, 0, 218, 424), (3, 4, 0, 0, 0), (2, 0, 0, 0, 0), (12, 0, 0, 0, 0), (0, 0, 3, 0, 0), (13, 3, 0, 0, 0), (0, 0, 80, 0, 0), (19, 26, 5, 0, 0), (0, 0, 80, 0, 0), (17, 30, 0, 0, 0), (2, 0, 0, 0, 0), (12, 0, 0, 0, 0), (0, 0, 3, 0, 0), (13, 3, 0, 0, 0), (3, 5, 0, 0, 0), (0, 0, 0, 0, 0), (3, 6, 0, 0, 0), (1, 6, 0, 0, 0), (1, 5, 0, 0, 0), (19, 72, 3, 0, 0), (1, 4, 0, 0, 0), (18, 72, 0, 0, 0), (2, 1, 0, 0, 0), (2, 2, 0, 0, 0), (2, 3, 0, 0, 0), (2, 0, 0, 0, 0), (0, 0, 3, 0, 0), (1, 6, 0, 0, 0), (13, 2, 0, 0, 0), (22, 324, 0, 214, 418), (2, 0, 0, 0, 0), (0, 0, 3, 0, 0), (1, 6, 0, 0, 0), (13, 2, 0, 0, 0), (0, 0, 1, 0, 0), (13, 0, 0, 0, 0), (22, 324, 0, 214, 418), (2, 0, 0, 0, 0), (0, 0, 3, 0, 0), (1, 6, 0, 0, 0), (13, 2, 0, 0, 0), (0, 0, 2, 0, 0), (13, 0, 0, 0, 0), (22, 324, 0, 214, 418), (22, 327, 0, 222, 723), (18, 68, 0, 0, 0), (2, 1, 0, 0, 0), (2, 2, 0, 0, 0), (22, 337, 0, 226, 1434), (18, 68, 0, 0, 0), (0, 0, 1, 0, 0), (17, 69, 0, 0, 0), (0, 0, 0, 0, 0), (3, 4, 0, 0, 0), (5, 6, 1, 0, 0), (17, 33, 0, 0, 0), (1, 4, 0, 0, 0), (18, 80, 0, 0, 0), (2, 1, 0, 0, 0), (2, 2, 0, 0, 0), (22, 337, 0, 226, 1434), (18, 80, 0, 0, 0), (0, 0, 1, 0, 0), (17, 81, 0, 0, 0), (0, 0, 0, 0, 0), (26, 0, 0, 0, 0)]
def z_p_L_law : List Nat := [0, 3, 4, 7, 8, 10, 12, 13, 15, 17, 18, 19, 20, 21, 22, 23, 26, 29, 31, 32, 33, 34, 35, 37, 40, 42, 45, 46, 47, 48, 49, 51, 52, 54, 56, 58, 61, 63, 66, 67, 68, 69, 70, 71, 73, 74, 77, 78, 79, 81, 82, 83, 84, 87, 88, 89, 91, 92, 93, 94, 97, 100, 103, 104, 105, 108, 111, 112, 115, 116, 118, 121, 124, 126, 129, 130, 131, 134, 137, 138, 141, 142, 143]
def z_codes : List (List zI) := [z_c_X0_isFull, z_c_X0_isThere, z_c_X0_issuer, z_c_X0_issuerFor, z_c_X0_add, z_c_X0_markRevoked, z_c_X0_publishList, z_c_X0_isGoodAt, z_c_X1_engineAt, z_c_X1_systemAt, z_c_X1_put, z_c_X1_allow, z_c_X1_countRequest, z_c_X1_beginCounting, z_c_X2_store, z_c_X2_logWrite, z_c_X2_logErase, z_c_X2_shipUpTo, z_c_X2_forgetAll, z_c_X2_logEntry, z_c_X2_moveEntry, z_c_X2_repeat, z_c_X3_isWrap, z_c_X3_addWrap, z_c_X3_unwrap, z_c_X3_countOfCases, z_c_X3_isCase, z_c_X3_askerOf, z_c_X3_pathOf, z_c_X3_versionOf, z_c_X3_isPending, z_c_X3_isApproved, z_c_X3_addCase, z_c_X3_addApproval, z_c_X3_close, z_c_X3_closeThoseAt, z_c_X4_bound, z_c_X4_keyOfNow, z_c_X4_leastKey, z_c_X4_setLeast, z_c_X4_makeKey, z_c_X4_keyToKeep, z_c_X5_isFull, z_c_X5_isThere, z_c_X5_tokenOf, z_c_X5_state, z_c_X5_end, z_c_X5_credentialsIn, z_c_X5_change, z_c_X5_makeCredential, z_c_X5_add, z_c_X5_bound, z_c_X5_prolong, z_c_X5_endThoseAt, z_c_X5_endThoseOfDead, z_c_X5_endThoseDue, z_c_X5_tryAgain, z_c_X5_rollBack, z_c_X5_countAnew, z_c_X5_endNow, z_c_X5_tryToRemove, z_c_X6_hasRoom, z_c_X6_addRule, z_c_X0_isFull, z_c_X6_at, z_c_X6_isInForce, z_c_X6_vaguenessAt, z_c_X6_digitOf, z_c_X6_segmentOf, z_c_X6_countOf, z_c_X6_givePolicies, z_c_X6_lead, z_c_X6_personOf, z_c_X6_policiesOfMethod, z_c_X6_leadElsewhere, z_c_X6_replaceMember, z_c_X6_setPersonIn, z_c_X6_setGroupIn, z_c_X6_policiesOfPerson, z_c_X6_groupsOf, z_c_X6_exchange, z_c_X6_setBit, z_c_X7_isDealt, z_c_X7_isShare, z_c_X7_valueOf, z_c_X7_isOpened, z_c_X0_isFull, z_c_X7_dealShares, z_c_X7_takeForOpening, z_c_X0_isFull, z_c_X0_isFull, z_c_X7_close, z_c_X7_nextDraw, z_c_X7_addTerm, z_c_X7_gather, z_c_X7_forgetGiven, z_c_X7_keyOfGiven, z_c_X7_weightOf, z_c_X7_inverse, z_c_X8_hashOf, z_c_X8_change, z_c_X8_areAllBlocking, z_c_X8_tell, z_c_X8_numberOf, z_c_X9_lastOf, z_c_X9_stateAt, z_c_X9_keyAt, z_c_X9_slotOf, z_c_X9_put, z_c_X9_setState, z_c_X9_numberOrWhyNot, z_c_X9_forget, z_c_X9_rewrapUpTo, z_c_X10_count, z_c_X10_isFull, z_c_X10_isThere, z_c_X10_isAlive, z_c_X10_isBatch, z_c_X10_personOf, z_c_X10_policiesOf, z_c_X10_endAt, z_c_X10_usesLeft, z_c_X10_add, z_c_X10_bound, z_c_X10_limit, z_c_X10_prolong, z_c_X10_handOver, z_c_X10_isUsableFrom, z_c_X10_countUse, z_c_X10_kill, z_c_X10_isLeftByDead, z_c_X11_deal, z_c_X11_share, z_c_X11_give, z_c_X11_seal, z_c_X11_isOpen, z_c_X0_isFull, z_c_X0_isFull, z_c_X11_setBounds, z_c_X11_turn, z_c_X11_retire, z_c_X11_rewrap, z_c_X11_key, z_c_X11_mount, z_c_X11_setQuota, z_c_X11_rule, z_c_X0_isFull, z_c_X11_setPolicies, z_c_X11_alias, z_c_X11_merge, z_c_X11_member, z_c_X11_login, z_c_X11_token, z_c_X11_renewToken, z_c_X11_revokeToken, z_c_X11_uses, z_c_X11_lives, z_c_X0_isFull, z_c_X11_read, z_c_X11_write, z_c_X11_erase, z_c_X11_keyOf, z_c_X11_setSystem, z_c_X11_issue, z_c_X11_renew, z_c_X11_revoke, z_c_X11_stateOf, z_c_X11_endOf, z_c_X11_credentials, z_c_X11_credentialsAnew, z_c_X11_wrap, z_c_X11_open, z_c_X11_approve, z_c_X11_takeUp, z_c_X11_cases, z_c_X11_certify, z_c_X11_revokeCertificate, z_c_X11_publish, z_c_X11_isGood, z_c_X11_issuerOf, z_c_X11_setSink, z_c_X11_hash, z_c_X11_ship, z_c_X11_farRead, z_c_X11_pass, z_c_X11_demandIndex, z_c_X11_demandArgument, z_c_X11_demandState, z_c_X11_isWithin, z_c_X11_isIndex, z_c_X11_isSegment, z_c_X11_isPath, z_c_X11_isPlace, z_c_X11_isVersion, z_c_X11_isDealing, z_c_X11_firstOf, z_c_X11_admit, z_c_X11_conclude, z_c_X11_rightsAt, z_c_X11_refusalOfChild, z_c_X11_letDie, z_c_X11_numberAt, z_c_X11_readOrAsk, z_c_X11_writeAt, z_c_X11_eraseAt, z_c_X11_issueAt, z_c_X11_approveCase, z_c_X11_takeUpCase, z_c_X11_certifyAt, z_c_X11_clearBehindUnmounting, z_c_X11_beginHour, z_c_X0_isFull, z_c_X0_isFull, z_c_X0_isFull, z_c_X0_isFull, z_c_X0_isFull, z_c_X0_isFull, z_c_X0_isFull, z_c_X0_isFull, z_c_X0_isFull, z_c_X0_isFull, z_c_X0_isFull, z_c_X0_isFull, z_c_X0_isFull, z_c_X0_isFull, z_c_X0_isFull, z_c_X0_isFull, z_c_X0_isFull, z_c_X0_isFull, z_c_X0_isFull, z_c_X0_isFull, z_c_X0_isFull, z_c_X0_isFull, z_c_X0_isFull, z_c_X0_isFull, z_c_X0_isFull, z_c_X0_isFull, z_c_X0_isFull, z_c_X0_isFull, z_c_X0_isFull, z_c_X0_isFull, z_c_X0_isFull, z_c_X0_isFull, z_c_X0_isFull, z_c_X0_isFull, z_c_X0_isFull, z_c_X0_isFull, z_c_X0_isFull, z_c_X0_isFull, z_c_X0_isFull, z_c_X0_isFull, z_c_X0_isFull, z_c_X0_isFull, z_c_X0_isFull, z_c_X0_isFull, z_c_X0_isFull, z_c_X0_isFull, z_c_X0_isFull, z_c_X0_isFull, z_c_X0_isFull, z_c_X0_isFull, z_c_X0_isFull, z_c_X0_isFull, z_c_X0_isFull, z_c_X0_isFull, z_c_X0_isFull, z_c_X0_isFull, z_c_X0_isFull, z_c_X0_isFull, z_c_X0_isFull, z_c_X0_isFull, z_c_X0_isFull, z_c_X0_isFull, z_c_X0_isFull, z_c_X0_isFull, z_c_X0_isFull, z_c_X0_isFull, z_c_X0_isFull, z_c_X0_isFull, z_c_X0_isFull, z_c_X0_isFull, z_c_X0_isFull, z_c_X0_isFull, z_c_X0_isFull, z_c_X0_isFull, z_c_X0_isFull, z_c_X0_isFull, z_c_X0_isFull, z_c_X0_isFull, z_c_X0_isFull, z_c_X0_isFull, z_c_X0_isFull, z_c_X0_isFull, z_c_X0_isFull, z_c_X0_isFull, z_c_X0_isFull, z_c_X0_isFull, z_c_X0_isFull, z_c_X0_isFull, z_c_X0_isFull, z_c_X0_isFull, z_c_X0_isFull, z_c_X0_isFull, z_c_X0_isFull, z_c_X0_isFull, z_c_X0_isFull, z_c_X0_isFull, z_c_X0_isFull, z_c_X0_isFull, z_c_X0_isFull, z_c_X0_isFull, z_c_X0_isFull, z_c_X0_isFull, z_c_X0_isFull, z_c_X0_isFull, z_c_X0_isFull, z_c_X0_isFull, z_c_X0_isFull, z_c_X0_isFull, z_c_X0_isFull, z_c_X0_isFull, z_c_X0_isFull, z_c_J6_bitCount_0f7a4, z_c_J9_floorMod_7cf53, z_c_L_draw, z_c_L_begins, z_c_L_opens, z_c_L_step, z_c_L_logs, z_c_L_makes, z_c_L_dies, z_c_L_values, z_c_L_credentials, z_c_L_wraps, z_c_L_cases, z_c_L_certificates, z_c_L_people, z_c_L_isWhole, z_c_L_law]
def z_pcs : List (List Nat) := [z_p_X0_isFull, z_p_X0_isThere, z_p_X0_issuer, z_p_X0_issuerFor, z_p_X0_add, z_p_X0_markRevoked, z_p_X0_publishList, z_p_X0_isGoodAt, z_p_X1_engineAt, z_p_X1_systemAt, z_p_X1_put, z_p_X1_allow, z_p_X1_countRequest, z_p_X1_beginCounting, z_p_X2_store, z_p_X2_logWrite, z_p_X2_logErase, z_p_X2_shipUpTo, z_p_X2_forgetAll, z_p_X2_logEntry, z_p_X2_moveEntry, z_p_X2_repeat, z_p_X3_isWrap, z_p_X3_addWrap, z_p_X3_unwrap, z_p_X3_countOfCases, z_p_X3_isCase, z_p_X3_askerOf, z_p_X3_pathOf, z_p_X3_versionOf, z_p_X3_isPending, z_p_X3_isApproved, z_p_X3_addCase, z_p_X3_addApproval, z_p_X3_close, z_p_X3_closeThoseAt, z_p_X4_bound, z_p_X4_keyOfNow, z_p_X4_leastKey, z_p_X4_setLeast, z_p_X4_makeKey, z_p_X4_keyToKeep, z_p_X5_isFull, z_p_X5_isThere, z_p_X5_tokenOf, z_p_X5_state, z_p_X5_end, z_p_X5_credentialsIn, z_p_X5_change, z_p_X5_makeCredential, z_p_X5_add, z_p_X5_bound, z_p_X5_prolong, z_p_X5_endThoseAt, z_p_X5_endThoseOfDead, z_p_X5_endThoseDue, z_p_X5_tryAgain, z_p_X5_rollBack, z_p_X5_countAnew, z_p_X5_endNow, z_p_X5_tryToRemove, z_p_X6_hasRoom, z_p_X6_addRule, z_p_X0_isFull, z_p_X6_at, z_p_X6_isInForce, z_p_X6_vaguenessAt, z_p_X6_digitOf, z_p_X6_segmentOf, z_p_X6_countOf, z_p_X6_givePolicies, z_p_X6_lead, z_p_X6_personOf, z_p_X6_policiesOfMethod, z_p_X6_leadElsewhere, z_p_X6_replaceMember, z_p_X6_setPersonIn, z_p_X6_setGroupIn, z_p_X6_policiesOfPerson, z_p_X6_groupsOf, z_p_X6_exchange, z_p_X6_setBit, z_p_X7_isDealt, z_p_X7_isShare, z_p_X7_valueOf, z_p_X7_isOpened, z_p_X0_isFull, z_p_X7_dealShares, z_p_X7_takeForOpening, z_p_X0_isFull, z_p_X0_isFull, z_p_X7_close, z_p_X7_nextDraw, z_p_X7_addTerm, z_p_X7_gather, z_p_X7_forgetGiven, z_p_X7_keyOfGiven, z_p_X7_weightOf, z_p_X7_inverse, z_p_X8_hashOf, z_p_X8_change, z_p_X8_areAllBlocking, z_p_X8_tell, z_p_X8_numberOf, z_p_X9_lastOf, z_p_X9_stateAt, z_p_X9_keyAt, z_p_X9_slotOf, z_p_X9_put, z_p_X9_setState, z_p_X9_numberOrWhyNot, z_p_X9_forget, z_p_X9_rewrapUpTo, z_p_X10_count, z_p_X10_isFull, z_p_X10_isThere, z_p_X10_isAlive, z_p_X10_isBatch, z_p_X10_personOf, z_p_X10_policiesOf, z_p_X10_endAt, z_p_X10_usesLeft, z_p_X10_add, z_p_X10_bound, z_p_X10_limit, z_p_X10_prolong, z_p_X10_handOver, z_p_X10_isUsableFrom, z_p_X10_countUse, z_p_X10_kill, z_p_X10_isLeftByDead, z_p_X11_deal, z_p_X11_share, z_p_X11_give, z_p_X11_seal, z_p_X11_isOpen, z_p_X0_isFull, z_p_X0_isFull, z_p_X11_setBounds, z_p_X11_turn, z_p_X11_retire, z_p_X11_rewrap, z_p_X11_key, z_p_X11_mount, z_p_X11_setQuota, z_p_X11_rule, z_p_X0_isFull, z_p_X11_setPolicies, z_p_X11_alias, z_p_X11_merge, z_p_X11_member, z_p_X11_login, z_p_X11_token, z_p_X11_renewToken, z_p_X11_revokeToken, z_p_X11_uses, z_p_X11_lives, z_p_X0_isFull, z_p_X11_read, z_p_X11_write, z_p_X11_erase, z_p_X11_keyOf, z_p_X11_setSystem, z_p_X11_issue, z_p_X11_renew, z_p_X11_revoke, z_p_X11_stateOf, z_p_X11_endOf, z_p_X11_credentials, z_p_X11_credentialsAnew, z_p_X11_wrap, z_p_X11_open, z_p_X11_approve, z_p_X11_takeUp, z_p_X11_cases, z_p_X11_certify, z_p_X11_revokeCertificate, z_p_X11_publish, z_p_X11_isGood, z_p_X11_issuerOf, z_p_X11_setSink, z_p_X11_hash, z_p_X11_ship, z_p_X11_farRead, z_p_X11_pass, z_p_X11_demandIndex, z_p_X11_demandArgument, z_p_X11_demandState, z_p_X11_isWithin, z_p_X11_isIndex, z_p_X11_isSegment, z_p_X11_isPath, z_p_X11_isPlace, z_p_X11_isVersion, z_p_X11_isDealing, z_p_X11_firstOf, z_p_X11_admit, z_p_X11_conclude, z_p_X11_rightsAt, z_p_X11_refusalOfChild, z_p_X11_letDie, z_p_X11_numberAt, z_p_X11_readOrAsk, z_p_X11_writeAt, z_p_X11_eraseAt, z_p_X11_issueAt, z_p_X11_approveCase, z_p_X11_takeUpCase, z_p_X11_certifyAt, z_p_X11_clearBehindUnmounting, z_p_X11_beginHour, z_p_X0_isFull, z_p_X0_isFull, z_p_X0_isFull, z_p_X0_isFull, z_p_X0_isFull, z_p_X0_isFull, z_p_X0_isFull, z_p_X0_isFull, z_p_X0_isFull, z_p_X0_isFull, z_p_X0_isFull, z_p_X0_isFull, z_p_X0_isFull, z_p_X0_isFull, z_p_X0_isFull, z_p_X0_isFull, z_p_X0_isFull, z_p_X0_isFull, z_p_X0_isFull, z_p_X0_isFull, z_p_X0_isFull, z_p_X0_isFull, z_p_X0_isFull, z_p_X0_isFull, z_p_X0_isFull, z_p_X0_isFull, z_p_X0_isFull, z_p_X0_isFull, z_p_X0_isFull, z_p_X0_isFull, z_p_X0_isFull, z_p_X0_isFull, z_p_X0_isFull, z_p_X0_isFull, z_p_X0_isFull, z_p_X0_isFull, z_p_X0_isFull, z_p_X0_isFull, z_p_X0_isFull, z_p_X0_isFull, z_p_X0_isFull, z_p_X0_isFull, z_p_X0_isFull, z_p_X0_isFull, z_p_X0_isFull, z_p_X0_isFull, z_p_X0_isFull, z_p_X0_isFull, z_p_X0_isFull, z_p_X0_isFull, z_p_X0_isFull, z_p_X0_isFull, z_p_X0_isFull, z_p_X0_isFull, z_p_X0_isFull, z_p_X0_isFull, z_p_X0_isFull, z_p_X0_isFull, z_p_X0_isFull, z_p_X0_isFull, z_p_X0_isFull, z_p_X0_isFull, z_p_X0_isFull, z_p_X0_isFull, z_p_X0_isFull, z_p_X0_isFull, z_p_X0_isFull, z_p_X0_isFull, z_p_X0_isFull, z_p_X0_isFull, z_p_X0_isFull, z_p_X0_isFull, z_p_X0_isFull, z_p_X0_isFull, z_p_X0_isFull, z_p_X0_isFull, z_p_X0_isFull, z_p_X0_isFull, z_p_X0_isFull, z_p_X0_isFull, z_p_X0_isFull, z_p_X0_isFull, z_p_X0_isFull, z_p_X0_isFull, z_p_X0_isFull, z_p_X0_isFull, z_p_X0_isFull, z_p_X0_isFull, z_p_X0_isFull, z_p_X0_isFull, z_p_X0_isFull, z_p_X0_isFull, z_p_X0_isFull, z_p_X0_isFull, z_p_X0_isFull, z_p_X0_isFull, z_p_X0_isFull, z_p_X0_isFull, z_p_X0_isFull, z_p_X0_isFull, z_p_X0_isFull, z_p_X0_isFull, z_p_X0_isFull, z_p_X0_isFull, z_p_X0_isFull, z_p_X0_isFull, z_p_X0_isFull, z_p_X0_isFull, z_p_X0_isFull, z_p_X0_isFull, z_p_X0_isFull, z_p_J6_bitCount_0f7a4, z_p_J9_floorMod_7cf53, z_p_L_draw, z_p_L_begins, z_p_L_opens, z_p_L_step, z_p_L_logs, z_p_L_makes, z_p_L_dies, z_p_L_values, z_p_L_credentials, z_p_L_wraps, z_p_L_cases, z_p_L_certificates, z_p_L_people, z_p_L_isWhole, z_p_L_law]
def z_sw : List (Nat × List (Int × Nat)) := [(8, [(2, 2), (4, 4), (8, 6)]), (502, [(0, 26), (1, 73), (2, 83), (3, 83), (4, 90), (5, 104), (6, 167), (7, 167), (8, 167), (9, 167), (10, 178), (11, 178), (12, 178), (13, 189), (14, 219), (15, 226), (16, 248), (17, 262), (18, 355), (19, 409), (20, 430), (21, 453), (22, 497)]), (154, [(0, 14), (1, 90), (2, 125)])]
end
section
/-! a machine of one's own for the methods of the tables: what an instruction does, what a call does -/
abbrev zV : Type := Int32 ⊕ (Int32 ⊕ Nat)
abbrev zS : Type := Nat → Nat → Int32
abbrev zCfg : Type := Nat × List (Option zV) × List zV × zS
abbrev zO : Type := zCfg ⊕ ((Nat × List zV × zCfg) ⊕ (Option zV ⊕ Nat))
abbrev zRes : Type := (Option zV ⊕ Nat) × zS × Nat
def z_up (S : zS) (j i : Nat) (v : Int32) : zS := fun a => if a = j then upd (S j) i v else S a
def z_y (m : Nat) : MethodName := z_ys.getD m ⟨"", "", ""⟩
def z_b (m : Nat) : ByteArray := z_bs.getD m ⟨#[]⟩
def z_m (m : Nat) : Nat × Option FieldType × Nat × Nat × Nat × Nat := z_ms.getD m (0, none, 0, 0, 0, 0)
def z_ml (m : Nat) : Nat := (z_m m).1
def z_rt (m : Nat) : Option FieldType := (z_m m).2.1
def z_st (m : Nat) : Nat := (z_m m).2.2.1
def z_na (m : Nat) : Nat := (z_m m).2.2.2.1
def z_fr (m : Nat) : Nat := (z_m m).2.2.2.2.1
def z_lo (m : Nat) : Nat := (z_m m).2.2.2.2.2
def z_pc (m i : Nat) : Nat := (z_pcs.getD m []).getD i 0
def z_ins (m i : Nat) : Option zI := (z_codes.getD m [])[i]?
def z_th (m : Nat) : List (Nat × Nat × Nat × Nat × Nat × Nat) := z_hs.getD m []
def z_tb (m : Nat) : List (Nat × Nat × Nat × Nat) := z_hh.getD m []
def z_w4 (m : Nat) : Nat × Nat × Nat × Nat := z_ws4.getD m (0, 0, 0, 0)
def z_cat (v : zV) : Nat := match v with
  | .inr (.inl _) => 2
  | _ => 1
def z_cats (r : List zV) : Nat := (r.map z_cat).sum
def z_ent (k : Nat) (as : List zV) : List (Option zV) := as.map some ++ List.replicate (z_ml k - as.length) none
def z_bin (o : Nat) (x y : Int32) : Option Int32 := match o with
  | 0 => some (x + y)
  | 1 => some (x - y)
  | 2 => some (x * y)
  | 3 => if y = 0 then none else some (x / y)
  | 4 => if y = 0 then none else some (x - x / y * y)
  | 5 => some (x &&& y)
  | 6 => some (x ||| y)
  | 7 => some (x ^^^ y)
  | 8 => some (x <<< (y &&& 31))
  | 9 => some (x >>> (y &&& 31))
  | 10 => some (x.toUInt32 >>> (y.toUInt32 &&& Int32.toUInt32 31)).toInt32
  | _ => none
def z_br (o : Nat) (x y : Int32) (A B : Option zO) : Option zO := match o with
  | 0 => if x = y then A else B
  | 1 => if x = y then B else A
  | 2 => if x < y then A else B
  | 3 => if y ≤ x then A else B
  | 4 => if y < x then A else B
  | 5 => if x ≤ y then A else B
  | _ => none
def z_sel (ps : List (Int × Nat)) (d : Nat) (x : Int32) (f : Nat → Option zO) : Option zO := match ps with
  | [] => f d
  | p :: r => if x.toInt = p.1 then f p.2 else z_sel r d x f
/-- the class's place of a method -/
def z_cls (m : Nat) : String := (z_y m).cls
def z_call (a n : Nat) (pc : Nat) (lv : List (Option zV)) (st : List zV) (S : zS) : Option zO :=
  if z_cats (st.drop n) ≤ 8 ∧ n ≤ st.length ∧ (st.take n).all (fun v => z_cat v == 1) = true then some (.inr (.inl (a, (st.take n).reverse, (pc + 1, lv, st.drop n, S)))) else none
/-- one instruction: the next place, a call, an answer, a throw -/
def z_ex (L : Nat) (pc : Nat) (lv : List (Option zV)) (st : List zV) (S : zS) (op a : Nat) (b : Int) : Option zO :=
  match op with
  | 0 => some (.inl (pc + 1, lv, .inl (Int32.ofInt b) :: st, S))
  | 1 => match lv[a]? with
    | some (some (.inl x)) => some (.inl (pc + 1, lv, .inl x :: st, S))
    | _ => none
  | 2 => match lv[a]? with
    | some (some (.inr (.inr k))) => some (.inl (pc + 1, lv, .inr (.inr k) :: st, S))
    | _ => none
  | 3 => match st with
    | .inl x :: r => if a < lv.length then some (.inl (pc + 1, lv.set a (some (.inl x)), r, S)) else none
    | _ => none
  | 4 => match st with
    | .inr (.inr k) :: r => if a < lv.length then some (.inl (pc + 1, lv.set a (some (.inr (.inr k))), r, S)) else none
    | _ => none
  | 5 => match lv[a]? with
    | some (some (.inl x)) => some (.inl (pc + 1, lv.set a (some (.inl (x + Int32.ofInt b))), st, S))
    | _ => none
  | 6 => match st with
    | .inr (.inr k) :: r => match z_lay[k]? with
      | some (.inr (ci, fk)) => if ci = a then match fk[b.toNat]? with
          | some none => some (.inl (pc + 1, lv, .inl (S k b.toNat) :: r, S))
          | some (some j) => some (.inl (pc + 1, lv, .inr (.inr j) :: r, S))
          | none => none
        else none
      | _ => none
    | _ => none
  | 7 => match st with
    | .inl x :: .inr (.inr k) :: r => match z_lay[k]? with
      | some (.inr (ci, fk)) => if ci = a then match fk[b.toNat]? with
          | some none => some (.inl (pc + 1, lv, r, z_up S k b.toNat x))
          | _ => none
        else none
      | _ => none
    | _ => none
  | 8 => match st with
    | .inl i :: .inr (.inr k) :: r =>
      if k = 1000 then (if i < 0 ∨ L ≤ i.toNatClampNeg then none else some (.inl (pc + 1, lv, .inl (S 1000 i.toNatClampNeg) :: r, S))) else
      match z_lay[k]? with
      | some (.inl (t, n)) => if t = 0 then (if i < 0 ∨ n ≤ i.toNatClampNeg then none else some (.inl (pc + 1, lv, .inl (S k i.toNatClampNeg) :: r, S))) else none
      | _ => none
    | _ => none
  | 9 => match st with
    | .inl i :: .inr (.inr k) :: r => match z_lay[k]? with
      | some (.inl (t, n)) => if t = 1 then (if i < 0 ∨ n ≤ i.toNatClampNeg then none else some (.inl (pc + 1, lv, .inl (S k i.toNatClampNeg) :: r, S))) else none
      | _ => none
    | _ => none
  | 10 => match st with
    | .inl x :: .inl i :: .inr (.inr k) :: r => match z_lay[k]? with
      | some (.inl (t, n)) => if t = 0 then (if i < 0 ∨ n ≤ i.toNatClampNeg then none else some (.inl (pc + 1, lv, r, z_up S k i.toNatClampNeg x))) else none
      | _ => none
    | _ => none
  | 11 => match st with
    | .inl x :: .inl i :: .inr (.inr k) :: r => match z_lay[k]? with
      | some (.inl (t, n)) => if t = 1 then (if i < 0 ∨ n ≤ i.toNatClampNeg then none else if x = 0 ∨ x = 1 then some (.inl (pc + 1, lv, r, z_up S k i.toNatClampNeg x)) else none) else none
      | _ => none
    | _ => none
  | 12 => match st with
    | .inr (.inr k) :: r => if k = 1000 then some (.inl (pc + 1, lv, .inl (Int32.ofNat L) :: r, S)) else
      match z_lay[k]? with
      | some (.inl (_, n)) => some (.inl (pc + 1, lv, .inl (Int32.ofNat n) :: r, S))
      | _ => none
    | _ => none
  | 13 => match st with
    | .inl y :: .inl x :: r => match z_bin a x y with
      | some v => some (.inl (pc + 1, lv, .inl v :: r, S))
      | none => none
    | _ => none
  | 14 => match st with
    | v :: r => if z_cat v = 1 then some (.inl (pc + 1, lv, v :: v :: r, S)) else none
    | _ => none
  | 15 => match st with
    | v :: w :: r => if z_cat v = 1 ∧ z_cat w = 1 then some (.inl (pc + 1, lv, v :: w :: v :: w :: r, S)) else none
    | _ => none
  | 16 => match st with
    | v :: r => if z_cat v = 1 then some (.inl (pc + 1, lv, r, S)) else none
    | _ => none
  | 17 => some (.inl (a, lv, st, S))
  | 18 => match st with
    | .inl x :: r => z_br b.toNat x 0 (some (.inl (a, lv, r, S))) (some (.inl (pc + 1, lv, r, S)))
    | _ => none
  | 19 => match st with
    | .inl y :: .inl x :: r => z_br b.toNat x y (some (.inl (a, lv, r, S))) (some (.inl (pc + 1, lv, r, S)))
    | _ => none
  | 20 => match st with
    | .inl x :: r => z_sel (z_sw.getD a (0, [])).2 (z_sw.getD a (0, [])).1 x (fun t => some (.inl (t, lv, r, S)))
    | _ => none
  | 36 => match st with
    | .inl x :: r => z_sel (z_sw.getD a (0, [])).2 (z_sw.getD a (0, [])).1 x (fun t => some (.inl (t, lv, r, S)))
    | _ => none
  | 21 => match st.drop (z_na a) with
    | .inr (.inr k) :: _ => match z_lay[k]? with
      | some (.inr (ci, _)) => if ci = b.toNat then z_call a (z_na a + 1) pc lv st S else none
      | _ => none
    | _ => none
  | 32 => match st.drop (z_na a) with
    | .inr (.inr k) :: _ => match z_lay[k]? with
      | some (.inr (ci, _)) => if ci = b.toNat then z_call a (z_na a + 1) pc lv st S else none
      | _ => none
    | _ => none
  | 22 => z_call a (z_na a) pc lv st S
  | 34 => match st with
    | .inl x :: r => if z_cats r ≤ 8 then some (.inl (pc + 1, lv, .inl (x / 36) :: r, S)) else none
    | _ => none
  | 35 => z_call a (z_na a) pc lv st S
  | 23 => match st with
    | .inl y :: .inl x :: r => if z_cats r ≤ 8 then some (.inl (pc + 1, lv, .inl (if x < y then y else x) :: r, S)) else none
    | _ => none
  | 24 => match st with
    | .inl y :: .inl x :: r => if z_cats r ≤ 8 then some (.inl (pc + 1, lv, .inl (if y < x then y else x) :: r, S)) else none
    | _ => none
  | 25 => match st with
    | [.inl x] => some (.inr (.inr (.inl (some (.inl x)))))
    | _ => none
  | 26 => match st with
    | [.inl x] => if x = 0 ∨ x = 1 then some (.inr (.inr (.inl (some (.inl x))))) else none
    | _ => none
  | 27 => match st with
    | [] => some (.inr (.inr (.inl none)))
    | _ => none
  | 28 => match st with
    | [.inr (.inr k)] => some (.inr (.inr (.inl (some (.inr (.inr k))))))
    | _ => none
  | 29 => match st with
    | [] => some (.inr (.inr (.inr a)))
    | _ => none
  | 30 => match st with
    | .inl x :: r => some (.inl (pc + 1, lv, .inr (.inl x) :: r, S))
    | _ => none
  | 31 => match st with
    | .inr (.inl x) :: .inl i :: .inr (.inr k) :: r => match z_lay[k]? with
      | some (.inl (t, n)) => if t = 2 then (if i < 0 ∨ n ≤ i.toNatClampNeg then none else some (.inl (pc + 1, lv, r, z_up S k i.toNatClampNeg x))) else none
      | _ => none
    | _ => none
  | 33 => match st with
    | .inl x :: .inr (.inr k) :: r => match z_lay[k]? with
      | some (.inr (ci, fk)) => if ci = a then match fk[b.toNat]? with
          | some none => if x = 0 ∨ x = 1 then some (.inl (pc + 1, lv, r, z_up S k b.toNat x)) else none
          | _ => none
        else none
      | _ => none
    | _ => none
  | 37 => match st with
    | .inl i :: .inr (.inr k) :: r => match z_lay[k]? with
      | some (.inl (t, n)) => if t = 2 then (if i < 0 ∨ n ≤ i.toNatClampNeg then none else some (.inl (pc + 1, lv, .inr (.inl (S k i.toNatClampNeg)) :: r, S))) else none
      | _ => none
    | _ => none
  | 38 => match st with
    | .inr (.inl y) :: .inr (.inl x) :: r => some (.inl (pc + 1, lv, .inl (lg_cmp x.toInt64 y.toInt64) :: r, S))
    | _ => none
  | 39 => some (.inl (pc + 1, lv, .inr (.inl (Int32.ofInt b)) :: st, S))
  | _ => none
def z_step (L m : Nat) (c : zCfg) : Option zO := match z_ins m c.1 with
  | some x => z_ex L c.1 c.2.1 c.2.2.1 c.2.2.2 x.1 x.2.1 x.2.2.1
  | none => none
def z_hd (hs : List (Nat × Nat × Nat × Nat × Nat × Nat)) (E : Nat) : Option Int32 := match hs with
  | [] => none
  | h :: r => if h.1 = E then some (Int32.ofNat h.2.2.2.2.2) else z_hd r E
def z_aft (m : Nat) (run : Nat → zCfg → Option zRes) (c' : zCfg) (r : Option zRes) : Option zRes := match r with
  | none => none
  | some (.inl r, S', e) => match run m (c'.1, c'.2.1, r.toList ++ c'.2.2.1, S') with
    | none => none
    | some (o, S2, e2) => some (o, S2, e + e2)
  | some (.inr E, S', e) => match z_hd (z_th m) E with
    | some v => some (.inl (some (.inl v)), S', e)
    | none => if (z_th m).isEmpty then some (.inr E, S', e) else none
def z_bod (run : Nat → zCfg → Option zRes) (m : Nat) (S : zS) (r : Option zO) : Option zRes := match r with
  | none => none
  | some (.inl c') => run m c'
  | some (.inr (.inl (k, as, c'))) => z_aft m run c' (run k (0, z_ent k as, [], c'.2.2.2))
  | some (.inr (.inr (.inl r))) => some (.inl r, S, 0)
  | some (.inr (.inr (.inr E))) => some (.inr E, S, 1)
def z_run (L : Nat) : Nat → Nat → zCfg → Option zRes
  | 0, _, _ => none
  | n + 1, m, c => z_bod (fun k c => z_run L n k c) m c.2.2.2 (z_step L m c)
theorem z_run_succ (L n m : Nat) (c : zCfg) : z_run L (n + 1) m c = z_bod (z_run L n) m c.2.2.2 (z_step L m c) := rfl
theorem z_run_mono1 (L : Nat) : ∀ n m c o, z_run L n m c = some o → z_run L (n + 1) m c = some o := by
  intro n
  induction n with
  | zero => intro m c o h; cases h
  | succ n ih =>
    intro m c o h
    rw [z_run_succ] at h ⊢
    rcases hs : z_step L m c with _ | (c' | (⟨k, as, c'⟩ | (r | E)))
    · rw [hs] at h; cases h
    · rw [hs] at h; exact ih _ _ _ h
    · rw [hs] at h
      show z_aft m (z_run L (n + 1)) c' (z_run L (n + 1) k (0, z_ent k as, [], c'.2.2.2)) = some o
      replace h : z_aft m (z_run L n) c' (z_run L n k (0, z_ent k as, [], c'.2.2.2)) = some o := h
      rcases h1 : z_run L n k (0, z_ent k as, [], c'.2.2.2) with _ | ⟨r | E, S', e⟩
      · rw [h1] at h; cases h
      · rw [ih _ _ _ h1]; rw [h1] at h
        simp only [z_aft] at h ⊢
        rcases h2 : z_run L n m (c'.1, c'.2.1, r.toList ++ c'.2.2.1, S') with _ | ⟨o2, S2, e2⟩
        · rw [h2] at h; cases h
        · rw [h2] at h; rw [ih _ _ _ h2]; exact h
      · rw [ih _ _ _ h1]; rw [h1] at h; exact h
    · rw [hs] at h; exact h
    · rw [hs] at h; exact h
theorem z_run_mono {L n m : Nat} {c : zCfg} {o : zRes} (h : z_run L n m c = some o) (k : Nat) : z_run L (n + k) m c = some o := by
  induction k with
  | zero => exact h
  | succ k ih => exact z_run_mono1 L _ _ _ _ ih
end
section
/-! what is checked of each instruction of the tables: its bytes, its words -/
def z_T : List Cond := lw_tbl.filter goodWord
def z_tt : List (List Cond) := [tables_1_1, tables_1_2, tables_1_3, tables_1_4, tables_1_5, tables_1_6, k2_sels lw_privs_1, k2_sels lw_privs_2]
def z_at (k : Nat) : Option Cond := (z_tt.getD (k / 256) [])[k % 256]?
def z_w (k : Nat) (w : Cond) : Bool := decide (z_at k = some w) && goodWord w
theorem z_sels_app (a b : List (MethodName × Nat)) : k2_sels (a ++ b) = k2_sels a ++ k2_sels b := List.map_append
theorem z_tt_in : ∀ t ∈ z_tt, ∀ w ∈ t, w ∈ lw_tbl := by
  intro t ht w hw
  show w ∈ k2_sels lw_privs ++ tables_1
  simp only [z_tt, List.mem_cons, List.not_mem_nil, or_false] at ht
  simp only [lw_privs, z_sels_app, tables_1, List.mem_append]
  rcases ht with rfl | rfl | rfl | rfl | rfl | rfl | rfl | rfl <;> simp only [hw, true_or, or_true]
theorem z_w_in {k : Nat} {w : Cond} (h : z_w k w = true) : w ∈ z_T := by
  simp only [z_w, Bool.and_eq_true, decide_eq_true_eq] at h
  obtain ⟨h1, h2⟩ := h
  have h3 : w ∈ z_tt.getD (k / 256) [] := List.mem_of_getElem? h1
  rcases hj : z_tt[k / 256]? with _ | t
  · rw [List.getD_eq_getElem?_getD, hj] at h3; simp at h3
  · rw [List.getD_eq_getElem?_getD, hj] at h3
    exact List.mem_filter.mpr ⟨z_tt_in t (List.mem_of_getElem? hj) w h3, h2⟩
def z_ifk (c : Jvm.ClassFile.Cond) : Nat := match c with
  | .eq => 0
  | .ne => 1
  | .lt => 2
  | .ge => 3
  | .gt => 4
  | .le => 5
def z_bi (a : Nat) : Instr := match a with
  | 0 => .iadd
  | 1 => .isub
  | 2 => .imul
  | 3 => .idiv
  | 4 => .irem
  | 5 => .iand
  | 6 => .ior
  | 7 => .ixor
  | 8 => .ishl
  | 9 => .ishr
  | 10 => .iushr
  | _ => .nop
def z_d (b : ByteArray) (pc np : Nat) (i : Instr) (n : Nat) : Bool := decide (decode b pc = .ok (i, n)) && decide (np = pc + n)
def z_exn (E : Nat) : String := match E with
  | 0 => "java/lang/IndexOutOfBoundsException"
  | 1 => "java/lang/IllegalArgumentException"
  | _ => "java/lang/IllegalStateException"
/-- the field's row: its word, its place -/
def z_fld (own : String) (ci s ix k : Nat) : Bool := match vwCl[ci]? with
  | some (_, T, N) => z_w k (.fieldLink own ix (T s).1 (T s).2.1 (T s).2.2.1) && decide (s < N)
  | none => false
def z_put (ci s : Nat) (ty : FieldType) : Bool := match vwCl[ci]? with
  | some (_, T, _) => decide ((T s).2.2.2 = false) && decide (parseFieldDescriptor (T s).2.2.1 = some ty)
  | none => false
/-- the callee's room in the caller's -/
def z_cal (m a : Nat) : Bool := decide (a < 372) && decide (z_fr a + 1 ≤ z_fr m) && decide (8 + (z_ml a + 11) + z_lo a ≤ z_lo m)
/-- the handlers: each leads to a store, a number and an answer -/
def z_hck (m pc : Nat) : Bool := decide ((z_tb m).map (fun h => (h.2.2.1, h.2.2.2)) = (z_th m).map (fun h => (h.2.1, h.2.2.1))) && (z_tb m).all (fun h => decide (h.1 ≤ pc) && decide (pc < h.2.1) && decide (h.2.2.2 ≠ 0)) && decide (z_rt m = some .int) && decide (z_cls m = RL) &&
  (z_th m).all (fun h => decide (h.1 < 3) && z_w h.2.2.2.1 (.classLink RL h.2.2.1 (z_exn h.1)) && decide (h.2.2.2.2.1 < z_ml m) && decide (Int32.ofInt (Int.ofNat h.2.2.2.2.2) = Int32.ofNat h.2.2.2.2.2) &&
    ((decide (h.2.2.2.2.1 < 4) && decide (decode (z_b m) h.2.1 = .ok (.astore_n (Fin.ofNat 4 h.2.2.2.2.1), 1)) && decide (decode (z_b m) (h.2.1 + 1) = .ok (.iconst (Int.ofNat h.2.2.2.2.2), 1)) && decide (decode (z_b m) (h.2.1 + 2) = .ok (.ireturn, 1))) ||
     (decide (decode (z_b m) h.2.1 = .ok (.astore h.2.2.2.2.1, 2)) && decide (decode (z_b m) (h.2.1 + 2) = .ok (.iconst (Int.ofNat h.2.2.2.2.2), 1)) && decide (decode (z_b m) (h.2.1 + 3) = .ok (.ireturn, 1))))) &&
  decide ((z_th m).Pairwise (fun a b => a.1 < b.1))
def z_okb (m i : Nat) (x : zI) : Bool :=
  let b := z_b m
  let pc := z_pc m i
  let np := z_pc m (i + 1)
  let own := z_cls m
  let a := x.2.1
  let v := x.2.2.1
  let ix := x.2.2.2.1
  let k := x.2.2.2.2
  match x.1 with
  | 0 => z_d b pc np (.iconst v) 1 || (z_d b pc np (.bipush v) 2 && decide ((Int8.ofInt v).toInt32 = Int32.ofInt v)) || (z_d b pc np (.sipush v) 3 && decide ((Int16.ofInt v).toInt32 = Int32.ofInt v)) || (z_d b pc np (.ldc ix) 2 && z_w k (.constant own ix (Int32.ofInt v))) || (z_d b pc np (.ldc_w ix) 3 && z_w k (.constant own ix (Int32.ofInt v)))
  | 1 => (z_d b pc np (.iload_n (Fin.ofNat 4 a)) 1 && decide (a < 4)) || z_d b pc np (.iload a) 2
  | 2 => (z_d b pc np (.aload_n (Fin.ofNat 4 a)) 1 && decide (a < 4)) || z_d b pc np (.aload a) 2
  | 3 => (z_d b pc np (.istore_n (Fin.ofNat 4 a)) 1 && decide (a < 4)) || z_d b pc np (.istore a) 2
  | 4 => (z_d b pc np (.astore_n (Fin.ofNat 4 a)) 1 && decide (a < 4)) || z_d b pc np (.astore a) 2
  | 5 => z_d b pc np (.iinc a v) 3
  | 6 => z_d b pc np (.getfield ix) 3 && z_fld own a v.toNat ix k
  | 7 => z_d b pc np (.putfield ix) 3 && z_fld own a v.toNat ix k && z_put a v.toNat .int
  | 33 => z_d b pc np (.putfield ix) 3 && z_fld own a v.toNat ix k && z_put a v.toNat .boolean
  | 8 => z_d b pc np .iaload 1
  | 9 => z_d b pc np .baload 1
  | 10 => z_d b pc np .iastore 1
  | 11 => z_d b pc np .bastore 1
  | 12 => z_d b pc np .arraylength 1
  | 13 => z_d b pc np (z_bi a) 1
  | 14 => z_d b pc np .dup 1
  | 15 => z_d b pc np .dup2 1
  | 16 => z_d b pc np .pop 1
  | 17 => match decode b pc with
    | .ok (.goto off, 3) => decide ((pc : Int) + off = (z_pc m a : Int))
    | _ => false
  | 18 => match decode b pc with
    | .ok (.ifCond cd off, 3) => decide ((pc : Int) + off = (z_pc m a : Int)) && decide (np = pc + 3) && decide (z_ifk cd = v.toNat)
    | _ => false
  | 19 => match decode b pc with
    | .ok (.if_icmp cd off, 3) => decide ((pc : Int) + off = (z_pc m a : Int)) && decide (np = pc + 3) && decide (z_ifk cd = v.toNat)
    | _ => false
  | 20 => match decode b pc with
    | .ok (.lookupswitch d ps, _) => (ps.toList.zip (ps.toList.drop 1)).all (fun (a, next) => a.1 < next.1) && decide ((pc : Int) + d = (z_pc m (z_sw.getD a (0, [])).1 : Int)) && decide (ps.toList.map (fun p => (p.1, (pc : Int) + p.2)) = (z_sw.getD a (0, [])).2.map (fun p => (p.1, (z_pc m p.2 : Int))))
    | _ => false
  | 36 => match decode b pc with
    | .ok (.tableswitch d lo hi offs, _) => decide ((pc : Int) + d = (z_pc m (z_sw.getD a (0, [])).1 : Int)) && decide (lo = 0) && decide (hi + 1 = (offs.size : Int)) && decide ((List.range offs.size).map (fun (j : Nat) => ((j : Int), (pc : Int) + offs.getD j 0)) = (z_sw.getD a (0, [])).2.map (fun p => (p.1, (z_pc m p.2 : Int))))
    | _ => false
  | 21 => z_d b pc np (.invokevirtual ix) 3 && z_w k (.methodLink own ix (z_y a)) && z_cal m a && decide (z_st a = 0) && (z_th m).isEmpty && (z_tb m).isEmpty && (z_tb a).isEmpty && decide ((vwCl[v.toNat]?).map (·.1) = some (z_cls a))
  | 32 => z_d b pc np (.invokevirtual ix) 3 && z_w k (.methodLink own ix (z_y a)) && z_cal m a && decide (z_st a = 0) && (z_tb a).isEmpty && decide ((vwCl[v.toNat]?).map (·.1) = some (z_cls a)) && !(z_th m).isEmpty && z_hck m pc
  | 22 => z_d b pc np (.invokestatic ix) 3 && z_w k (.methodLink own ix (z_y a)) && z_cal m a && decide (z_st a = 1) && (z_th m).isEmpty && (z_tb m).isEmpty && (z_tb a).isEmpty
  | 34 => z_d b pc np (.invokestatic 66) 3 && decide (a = 195) && decide (z_y a = yX11_firstOf) && decide (own = RX6) && z_cal m a && decide (z_st a = 1) && (z_th m).isEmpty && (z_tb m).isEmpty && (z_tb a).isEmpty
  | 35 => z_d b pc np (.invokestatic ix) 3 && z_w k (.methodLink own ix (z_y a)) && z_cal m a && decide (z_st a = 1) && (z_th m).isEmpty && (z_tb m).isEmpty && !(z_tb a).isEmpty
  | 23 => z_d b pc np (.invokestatic ix) 3 && z_w k (.methodLink own ix Lib.Math.max.name) && decide (1 ≤ z_fr m) && decide (21 ≤ z_lo m)
  | 24 => z_d b pc np (.invokestatic ix) 3 && z_w k (.methodLink own ix Lib.Math.min.name) && decide (1 ≤ z_fr m) && decide (21 ≤ z_lo m)
  | 25 => decide (decode b pc = .ok (.ireturn, 1)) && decide (z_rt m = some .int)
  | 26 => decide (decode b pc = .ok (.ireturn, 1)) && decide (z_rt m = some .boolean)
  | 27 => decide (decode b pc = .ok (.return_, 1)) && decide (z_rt m = none)
  | 28 => decide (decode b pc = .ok (.areturn, 1)) && (match z_rt m with | some (.object _) => true | _ => false)
  | 29 => decide (decode b pc = .ok (.new ix, 3)) && decide (decode b (pc + 3) = .ok (.dup, 1)) && decide (decode b (pc + 4) = .ok (.invokespecial v.toNat, 3)) && decide (decode b (pc + 7) = .ok (.athrow, 1)) && z_w k (.classLink own ix (z_exn a)) && decide (6 ≤ z_fr m) && decide (81 ≤ z_lo m) && (z_tb m).isEmpty && decide (a < 3 ∧ m = 185 + a ∧ own = RX11 ∧ v.toNat = 387 + 3 * a)
  | 30 => z_d b pc np .i2l 1
  | 31 => z_d b pc np .lastore 1
  | 37 => z_d b pc np .laload 1
  | 38 => z_d b pc np .lcmp 1
  | 39 => (z_d b pc np (.lconst 0) 1 && decide (v = 0)) || (z_d b pc np (.lconst 1) 1 && decide (v = 1))
  | _ => false
/-- all instructions of a method, but those that are not reached so -/
def z_okm (m : Nat) : Bool := (List.range (z_codes.getD m []).length).all fun i => match z_ins m i with
  | some x => decide (x.1 = 99) || z_okb m i x
  | none => true
/-- what is checked of a method: its words -/
def z_mok (m : Nat) : Bool :=
  (if (z_tb m).isEmpty then z_w (z_w4 m).1 (.code (z_y m) (z_b m) (z_ml m) (z_rt m)) else z_w (z_w4 m).1 (.codeWith (z_y m) (z_b m) (z_ml m) (z_rt m) (z_tb m))) &&
  (if z_st m = 1 then z_w (z_w4 m).2.1 (.static (z_y m)) else z_w (z_w4 m).2.1 (.instanceMethod (z_y m)) && z_w (z_w4 m).2.2.1 (.selects (z_cls m) (z_y m) (z_y m))) &&
  z_w (z_w4 m).2.2.2 (.initialized (z_cls m)) && plainFor (z_y m) && decide (z_cls m ≠ "java/lang/invoke/MethodHandle" ∧ z_cls m ≠ "java/lang/invoke/VarHandle") &&
  decide ((parseMethodDescriptor (z_y m).desc).map (fun d => d.parameters.length) = some (z_na m)) &&
  decide ((z_th m).isEmpty = (z_tb m).isEmpty) && decide (z_na m + (1 - z_st m) ≤ z_ml m)
end
section
/-! the world of the tables: what the cells hold, by a function of cell and place -/
def z_cv (q : Nat → Nat) (v : zV) : Value := match v with
  | .inl x => .int x
  | .inr (.inl x) => .long x.toInt64
  | .inr (.inr k) => .ref (q k)
theorem z_cv_cat (q : Nat → Nat) (v : zV) : (z_cv q v).category = z_cat v := by
  rcases v with x | x | k <;> rfl
theorem z_cats_eq (q : Nat → Nat) (r : List zV) : ((r.map (z_cv q)).map fun v => v.category).sum = z_cats r := by
  rw [List.map_map]
  unfold z_cats
  congr 1
  exact List.map_congr_left fun v _ => z_cv_cat q v
def z_fs (q : Nat → Nat) (fk : List (Option Nat)) (f : Nat → Int32) : List Value := (List.range fk.length).map fun i => match fk[i]? with
  | some (some o) => .ref (q o)
  | _ => .int (f i)
theorem z_fs_len (q : Nat → Nat) (fk : List (Option Nat)) (f : Nat → Int32) : (z_fs q fk f).length = fk.length := by simp [z_fs]
theorem z_fs_int {q : Nat → Nat} {fk : List (Option Nat)} (f : Nat → Int32) {i : Nat} (h : fk[i]? = some none) : (z_fs q fk f)[i]? = some (.int (f i)) := by
  have hi := (List.getElem?_eq_some_iff.mp h).1
  simp [z_fs, List.getElem?_range hi, h]
theorem z_fs_ref {q : Nat → Nat} {fk : List (Option Nat)} (f : Nat → Int32) {i o : Nat} (h : fk[i]? = some (some o)) : (z_fs q fk f)[i]? = some (.ref (q o)) := by
  have hi := (List.getElem?_eq_some_iff.mp h).1
  simp [z_fs, List.getElem?_range hi, h]
theorem z_fs_set {q : Nat → Nat} {fk : List (Option Nat)} (f : Nat → Int32) {i : Nat} (h : fk[i]? = some none) (v : Int32) : (z_fs q fk f).set i (.int v) = z_fs q fk (upd f i v) := by
  have hi := (List.getElem?_eq_some_iff.mp h).1
  apply List.ext_getElem?
  intro j
  rw [List.getElem?_set]
  by_cases hj : i = j
  · subst hj
    rw [if_pos rfl, z_fs_int _ h, if_pos (by rw [z_fs_len]; exact hi)]
    simp [upd]
  · rw [if_neg hj]
    by_cases hl : j < fk.length
    · simp only [z_fs, List.getElem?_map, List.getElem?_range hl, Option.map_some]
      congr 1
      have hu : upd f i v j = f j := by unfold upd; rw [if_neg (fun e => hj e.symm)]
      rcases fk[j]? with _ | _ | o <;> simp [hu]
    · have h1 : ∀ g, (z_fs q fk g)[j]? = none := fun g => List.getElem?_eq_none (by rw [z_fs_len]; omega)
      rw [h1, h1]
def z_el (cI cZ cJ : ClassId) (q : Nat → Nat) (f : Nat → Int32) (k : zK) : va_E := match k with
  | .inl (t, n) => if t = 2 then .inl (cJ, n, .inr (.inl fun i => (f i).toInt64)) else .inl (if t = 0 then cI else cZ, n, .inl f)
  | .inr (ci, fk) => .inr (ci, z_fs q fk f)
def z_W (cI cZ cJ : ClassId) (q : Nat → Nat) (S : zS) : va_W := (List.range z_lay.length).map fun j => (q j, z_el cI cZ cJ q (S j) (z_lay.getD j (.inl (0, 0))))
theorem z_W_at {cI cZ cJ : ClassId} {q : Nat → Nat} (S : zS) {j : Nat} {k : zK} (h : z_lay[j]? = some k) : (z_W cI cZ cJ q S)[j]? = some (q j, z_el cI cZ cJ q (S j) k) := by
  have hj := (List.getElem?_eq_some_iff.mp h).1
  simp [z_W, List.getElem?_range hj, List.getD_eq_getElem?_getD, h]
theorem z_W_set {cI cZ cJ : ClassId} {q : Nat → Nat} {S S' : zS} {j : Nat} {k : zK} {e : va_E} (h : z_lay[j]? = some k) (he : z_el cI cZ cJ q (S' j) k = e) (hne : ∀ i, i ≠ j → S' i = S i) : (z_W cI cZ cJ q S).set j (q j, e) = z_W cI cZ cJ q S' := by
  have hj := (List.getElem?_eq_some_iff.mp h).1
  apply List.ext_getElem?
  intro i
  rw [List.getElem?_set]
  by_cases hij : j = i
  · subst hij
    rw [if_pos rfl, if_pos (by simp [z_W]; exact hj), z_W_at S' h, he]
  · rw [if_neg hij]
    by_cases hi : i < z_lay.length
    · simp only [z_W, List.getElem?_map, List.getElem?_range hi, Option.map_some, hne i (fun e => hij e.symm)]
    · rw [List.getElem?_eq_none (by simp [z_W]; omega), List.getElem?_eq_none (by simp [z_W]; omega)]
theorem z_up_at (S : zS) (j i : Nat) (v : Int32) : z_up S j i v j = upd (S j) i v := by simp [z_up]
theorem z_up_ne (S : zS) (j i : Nat) (v : Int32) (a : Nat) (h : a ≠ j) : z_up S j i v a = S a := by simp [z_up, h]
/-- locals: those that are known, and short -/
def z_al (q : Nat → Nat) (lv : List (Option zV)) : List (Nat × Value) := (List.range lv.length).filterMap fun i => match lv[i]? with
  | some (some v) => if z_cat v = 1 then some (i, z_cv q v) else none
  | _ => none
theorem z_al_in {q : Nat → Nat} {lv : List (Option zV)} {i : Nat} {v : zV} (h : lv[i]? = some (some v)) (hc : z_cat v = 1) : (i, z_cv q v) ∈ z_al q lv := by
  have hi := (List.getElem?_eq_some_iff.mp h).1
  exact List.mem_filterMap.mpr ⟨i, List.mem_range.mpr hi, by simp [h, hc]⟩
theorem z_al_of {q : Nat → Nat} {lv : List (Option zV)} {x : Nat × Value} (h : x ∈ z_al q lv) : ∃ v, lv[x.1]? = some (some v) ∧ z_cat v = 1 ∧ x.2 = z_cv q v := by
  obtain ⟨i, -, h2⟩ := List.mem_filterMap.mp h
  split at h2
  · next v hv =>
    split at h2
    · next hc => cases h2; exact ⟨v, hv, hc, rfl⟩
    · cases h2
  · cases h2
theorem z_al_at {q : Nat → Nat} {lv : List (Option zV)} {ls : Array Slot} {n i : Nat} {v : zV} (hl : lv_has ls n (z_al q lv)) (h : lv[i]? = some (some v)) (hc : z_cat v = 1) : ls[i]? = some (.val (z_cv q v)) := hl.2.2 _ (z_al_in h hc)
/-- behind a store -/
theorem z_al_set {q : Nat → Nat} {lv : List (Option zV)} {ls : Array Slot} {n i : Nat} {v : zV} (hi : i < lv.length) (hc : z_cat v = 1) (hl : lv_has ls n ((i, z_cv q v) :: (z_al q lv).filter (fun x => !(x.1 == i) && !(x.1 + 1 == i && x.2.category == 2)))) : lv_has ls n (z_al q (lv.set i (some v))) := by
  refine ⟨hl.1, hl.2.1, fun x hx => ?_⟩
  obtain ⟨w, h1, h2, h3⟩ := z_al_of hx
  apply hl.2.2
  by_cases hxi : x.1 = i
  · rw [hxi, List.getElem?_set_self hi] at h1
    cases h1
    have : x = (i, z_cv q v) := by rw [← hxi, ← h3]
    rw [this]
    exact List.mem_cons_self
  · rw [List.getElem?_set_ne (fun e => hxi e.symm)] at h1
    refine List.mem_cons_of_mem _ (List.mem_filter.mpr ⟨?_, ?_⟩)
    · have := z_al_in (q := q) h1 h2
      rw [← h3] at this
      exact this
    · have hcat : x.2.category = 1 := by rw [h3, z_cv_cat, h2]
      simp [hxi, hcat]
def z_dcl : List MethodName := [⟨"java/lang/RuntimeException", "<init>", "()V"⟩, ⟨"java/lang/Exception", "<init>", "()V"⟩, ⟨"java/lang/Throwable", "<init>", "()V"⟩]
def z_Fx (dC : Nat → ClassId) (dI : Nat → Nat → Nat) (cI cZ cJ : ClassId) (q : Nat → Nat) (A : Nat → Prop) (L : Nat) (X : Nat → Int32) (U : State) (H : Heap) : Prop :=
  va_K (dC, dI) vwCl [(cI, .int), (cZ, .boolean), (cJ, .long)] U ∧ va_Nw (.methodLinkNest RX6 66 yX11_firstOf RX11) U ∧ vx_Zq Bundle.tN "UNASSIGNED_STACK" Bundle.steD A U H ∧ vx_Zq Bundle.tN "SUPPRESSED_SENTINEL" Bundle.listD A U H ∧ va_X (q 1000) L X U H ∧ q 1000 < H.size ∧ (∀ E E', E' < E → E < 3 → va_Nc (z_exn E) (z_exn E') U) ∧ (∀ y ∈ z_dcl, va_Nw (.declares y) U) ∧ ∀ E, E < 3 → va_Nw (.castable (z_exn E) (z_exn E)) U
def z_Ap (q : Nat → Nat) (A : Nat → Prop) : Prop := (∀ i j, i < z_lay.length → j < z_lay.length → q i = q j → i = j) ∧ (∀ j, j < z_lay.length → A (q j)) ∧ ¬ A (q 1000)
theorem z_Ap.D {cI cZ cJ : ClassId} {q : Nat → Nat} {A : Nat → Prop} (h : z_Ap q A) (S : zS) : va_D A (z_W cI cZ cJ q S) := by
  have key : ∀ (k : Nat) (x : Nat × va_E), (z_W cI cZ cJ q S)[k]? = some x → k < z_lay.length ∧ x.1 = q k := by
    intro k x hk
    have hl : k < z_lay.length := by simpa [z_W] using (List.getElem?_eq_some_iff.mp hk).1
    simp only [z_W, List.getElem?_map, List.getElem?_range hl, Option.map_some, Option.some.injEq] at hk
    exact ⟨hl, by rw [← hk]⟩
  refine ⟨fun i j x y hi hj hxy => ?_, fun k x hk => ?_⟩
  · obtain ⟨h1, e1⟩ := key i x hi
    obtain ⟨h2, e2⟩ := key j y hj
    exact h.1 i j h1 h2 (by rw [← e1, ← e2, hxy])
  · obtain ⟨h1, e1⟩ := key k x hk
    rw [e1]; exact h.2.1 k h1
theorem z_Fx.go {dC : Nat → ClassId} {dI : Nat → Nat → Nat} {cI cZ cJ : ClassId} {q : Nat → Nat} {A : Nat → Prop} {L : Nat} {X : Nat → Int32} {s U : State} {H0 H : Heap} {locs : List Loc} (h : z_Fx dC dI cI cZ cJ q A L X s H0) (hA : ¬ A (q 1000)) (hS : va_S A H0 H locs) (hW : s.WarmedH U.vm) : z_Fx dC dI cI cZ cJ q A L X U H := by
  obtain ⟨h1, h2, h3, h4, h5, h6, h7, h8, h9⟩ := h
  exact ⟨va_K.moved hW.alike h1, va_Nw.warmM hW h2, (h3.kept (fun a ha hn => hS.2.1 a ha hn)).moved hW.alike, (h4.kept (fun a ha hn => hS.2.1 a ha hn)).moved hW.alike, (h5.kept (hS.2.1 _ h6 hA)).moved hW.alike, Nat.lt_of_lt_of_le h6 hS.1, fun E E' a b => (h7 E E' a b).moved hW.alike, fun y hy => va_Nw.warmD hW (h8 y hy), fun E hE => va_Nw.warmC hW (h9 E hE)⟩
end
section
/-! each instruction of the small machine, by a row of the kit -/
def z_Cx (l : Launch) (mi : Nat) (p : Program) (R : Room) (s : State) (m : MethodId) (args : Array Value) (c : Code) : Prop := p.tables.exec = Jvm.exec ∧ c.code = z_b mi ∧ c.maxLocals = z_ml mi ∧ s.vm.findClass (z_cls mi) = some m.cls ∧ (∀ w ∈ z_T, w.before args s = true) ∧ z_fr mi ≤ R.frames ∧ z_lo mi ≤ R.locals ∧ l.stackTraces = false
def z_Rl (dC : Nat → ClassId) (dI : Nat → Nat → Nat) (cI cZ cJ : ClassId) (q : Nat → Nat) (A : Nat → Prop) (X : Nat → Int32) (s : State) (mi : Nat) (cf : zCfg) (H : Heap) (locs : List Loc) (ls : Array Slot) : Prop := va_P (dC, dI) vwCl (z_W cI cZ cJ q cf.2.2.2) H ∧ cf.2.2.2 1000 = X ∧ va_S A s.heap H locs ∧ lv_has ls (z_ml mi) (z_al q cf.2.1) ∧ cf.2.1.length = z_ml mi
theorem z_inK {C : String} {T : u_T} {N : Nat} (is : List Nat) (h : (List.range N).all (fun k => z_w (is.getD k 0) (u_lay C T k)) = true) : ∀ w ∈ u_ws C T N, w ∈ z_T := fun w hw => by
  obtain ⟨k, hk, rfl⟩ := List.mem_map.mp hw
  exact z_w_in (List.all_eq_true.mp h k hk)
theorem z_in0 : ∀ w ∈ u_ws RX0 TX0 6, w ∈ z_T := z_inK [349, 351, 353, 355, 357, 359] (by decide +kernel)
theorem z_in1 : ∀ w ∈ u_ws RX1 TX1 4, w ∈ z_T := z_inK [102, 104, 106, 108] (by decide +kernel)
theorem z_in2 : ∀ w ∈ u_ws RX2 TX2 7, w ∈ z_T := z_inK [282, 284, 286, 288, 290, 292, 294] (by decide +kernel)
theorem z_in3 : ∀ w ∈ u_ws RX3 TX3 11, w ∈ z_T := z_inK [314, 316, 318, 320, 322, 324, 326, 328, 330, 332, 334] (by decide +kernel)
theorem z_in4 : ∀ w ∈ u_ws RX4 TX4 6, w ∈ z_T := z_inK [79, 81, 83, 85, 87, 89] (by decide +kernel)
theorem z_in5 : ∀ w ∈ u_ws RX5 TX5 11, w ∈ z_T := z_inK [209, 211, 213, 215, 217, 219, 221, 223, 225, 227, 229] (by decide +kernel)
theorem z_in6 : ∀ w ∈ u_ws RX6 TX6 10, w ∈ z_T := z_inK [127, 129, 131, 133, 135, 137, 139, 141, 143, 145] (by decide +kernel)
theorem z_in7 : ∀ w ∈ u_ws RX7 TX7 11, w ∈ z_T := z_inK [43, 45, 47, 49, 51, 53, 55, 57, 59, 61, 63] (by decide +kernel)
theorem z_in8 : ∀ w ∈ u_ws RX8 TX8 4, w ∈ z_T := z_inK [372, 374, 376, 378] (by decide +kernel)
theorem z_in9 : ∀ w ∈ u_ws RX9 TX9 4, w ∈ z_T := z_inK [258, 260, 262, 264] (by decide +kernel)
theorem z_in10 : ∀ w ∈ u_ws RX10 TX10 12, w ∈ z_T := z_inK [166, 168, 170, 172, 174, 176, 178, 180, 182, 184, 186, 188] (by decide +kernel)
theorem z_in11 : ∀ w ∈ u_ws RX11 TX11 12, w ∈ z_T := z_inK [393, 395, 397, 399, 401, 403, 405, 407, 409, 411, 413, 415] (by decide +kernel)
theorem z_inX : ∀ (ci : Nat) (r : vw_C), vwCl[ci]? = some r → ∀ w ∈ u_ws r.1 r.2.1 r.2.2, w ∈ z_T := by
  intro ci r h
  match ci, h with
  | 0, h => cases h; exact z_in0
  | 1, h => cases h; exact z_in1
  | 2, h => cases h; exact z_in2
  | 3, h => cases h; exact z_in3
  | 4, h => cases h; exact z_in4
  | 5, h => cases h; exact z_in5
  | 6, h => cases h; exact z_in6
  | 7, h => cases h; exact z_in7
  | 8, h => cases h; exact z_in8
  | 9, h => cases h; exact z_in9
  | 10, h => cases h; exact z_in10
  | 11, h => cases h; exact z_in11
  | n + 12, h => simp [vwCl] at h
def z_ty (ci : Nat) : Nat → FieldType := match ci with
  | 0 => tyX0
  | 1 => tyX1
  | 2 => tyX2
  | 3 => tyX3
  | 4 => tyX4
  | 5 => tyX5
  | 6 => tyX6
  | 7 => tyX7
  | 8 => tyX8
  | 9 => tyX9
  | 10 => tyX10
  | _ => tyX11
theorem z_tyok : ∀ (ci : Nat) (r : vw_C), vwCl[ci]? = some r → ∀ k, k < r.2.2 → parseFieldDescriptor (r.2.1 k).2.2.1 = some (z_ty ci k) := by
  intro ci r h
  match ci, h with
  | 0, h => cases h; exact tyX0_ok
  | 1, h => cases h; exact tyX1_ok
  | 2, h => cases h; exact tyX2_ok
  | 3, h => cases h; exact tyX3_ok
  | 4, h => cases h; exact tyX4_ok
  | 5, h => cases h; exact tyX5_ok
  | 6, h => cases h; exact tyX6_ok
  | 7, h => cases h; exact tyX7_ok
  | 8, h => cases h; exact tyX8_ok
  | 9, h => cases h; exact tyX9_ok
  | 10, h => cases h; exact tyX10_ok
  | 11, h => cases h; exact tyX11_ok
  | n + 12, h => simp [vwCl] at h
theorem z_nm : ∀ (ci : Nat) (r : vw_C), vwCl[ci]? = some r → ∀ a, a < r.2.2 → ∀ b, b < r.2.2 → a ≠ b → (r.2.1 a).2.1 ≠ (r.2.1 b).2.1 := by
  intro ci r h
  match ci, h with
  | 0, h => cases h; exact nmX0
  | 1, h => cases h; exact nmX1
  | 2, h => cases h; exact nmX2
  | 3, h => cases h; exact nmX3
  | 4, h => cases h; exact nmX4
  | 5, h => cases h; exact nmX5
  | 6, h => cases h; exact nmX6
  | 7, h => cases h; exact nmX7
  | 8, h => cases h; exact nmX8
  | 9, h => cases h; exact nmX9
  | 10, h => cases h; exact nmX10
  | 11, h => cases h; exact nmX11
  | n + 12, h => simp [vwCl] at h
theorem z_lay_ne {k : Nat} {x : zK} (h : z_lay[k]? = some x) : k ≠ 1000 := fun e => by subst e; cases h
theorem z_mathini : Cond.initialized "java/lang/Math" ∈ z_T := z_w_in (k := 19) (by decide +kernel)
theorem z_max_st : Cond.static Lib.Math.max.name ∈ z_T := z_w_in (k := 834) (by decide +kernel)
theorem z_min_st : Cond.static Lib.Math.min.name ∈ z_T := z_w_in (k := 975) (by decide +kernel)
theorem z_max_code : Cond.code Lib.Math.max.name Lib.Math.max.code 2 (some .int) ∈ z_T := z_w_in (k := 835) (by decide +kernel)
theorem z_min_code : Cond.code Lib.Math.min.name Lib.Math.min.code 2 (some .int) ∈ z_T := z_w_in (k := 976) (by decide +kernel)
section ZSND
variable {l : Launch} {dC : Nat → ClassId} {dI : Nat → Nat → Nat} {cI cZ cJ : ClassId} {q : Nat → Nat} {A : Nat → Prop} {L : Nat} {X : Nat → Int32}
variable {p : Program} {e : Env} {R : Room} {s : State} {m : MethodId} {args : Array Value} {below : List Frame} {meth : Method} {c : Code} {Q : State → Prop} {mi : Nat} {cells slots : Nat}
variable {pc : Nat} {lv : List (Option zV)} {st : List zV} {S : zS} {c2 : zCfg}

set_option maxHeartbeats 1000000 in
theorem z_s0 {a ix kw : Nat} {b : Int} (hC : z_Cx l mi p R s m args c) (hF : z_Fx dC dI cI cZ cJ q A L X s s.heap) (hA : z_Ap q A) (hok : z_okb mi pc (0, a, b, ix, kw) = true) (hs : z_ex L pc lv st S 0 a b = some (.inl c2)) (hsl : slots ≤ R.slots) (hce : cells ≤ R.cells)
    (kk : ∀ H locs ls, z_Rl dC dI cI cZ cJ q A X s mi c2 H locs ls → W p l e R s m args below meth c H locs cells slots Q (F0 m (z_pc mi c2.1) ls (c2.2.2.1.map (z_cv q)))) :
    ∀ H locs ls, z_Rl dC dI cI cZ cJ q A X s mi (pc, lv, st, S) H locs ls → W p l e R s m args below meth c H locs cells slots Q (F0 m (z_pc mi pc) ls (st.map (z_cv q))) := by
  intro H locs ls hR
  obtain ⟨hP, hX, hS, hl, hlen⟩ := hR
  dsimp only at hP hX hS hl hlen
  obtain ⟨hx, hb, hml, hown, hts, hfr, hlo, htr⟩ := hC
  simp only [z_okb, z_d, Bool.and_eq_true, Bool.or_eq_true, decide_eq_true_eq] at hok
  simp only [z_ex] at hs
  cases hs
  have h9 := kk H locs ls ⟨hP, hX, hS, hl, hlen⟩
  dsimp only at h9
  rcases hok with ((((⟨hd, hn⟩ | ⟨⟨hd, hn⟩, hv⟩) | ⟨⟨hd, hn⟩, hv⟩) | ⟨⟨hd, hn⟩, hv⟩) | ⟨⟨hd, hn⟩, hv⟩)
  · rw [hn] at h9
    exact lv_iconst hx hb hd rfl h9
  · rw [hn] at h9
    exact lv_bipush hx hb hd hv h9
  · rw [hn] at h9
    exact lv_sipush hx hb hd hv h9
  · rw [hn] at h9
    exact lv_ldc hx hb hown (hts _ (z_w_in hv)) hd h9
  · rw [hn] at h9
    exact lv_ldcw hx hb hown (hts _ (z_w_in hv)) hd h9
set_option maxHeartbeats 1000000 in
theorem z_s1 {a ix kw : Nat} {b : Int} (hC : z_Cx l mi p R s m args c) (hF : z_Fx dC dI cI cZ cJ q A L X s s.heap) (hA : z_Ap q A) (hok : z_okb mi pc (1, a, b, ix, kw) = true) (hs : z_ex L pc lv st S 1 a b = some (.inl c2)) (hsl : slots ≤ R.slots) (hce : cells ≤ R.cells)
    (kk : ∀ H locs ls, z_Rl dC dI cI cZ cJ q A X s mi c2 H locs ls → W p l e R s m args below meth c H locs cells slots Q (F0 m (z_pc mi c2.1) ls (c2.2.2.1.map (z_cv q)))) :
    ∀ H locs ls, z_Rl dC dI cI cZ cJ q A X s mi (pc, lv, st, S) H locs ls → W p l e R s m args below meth c H locs cells slots Q (F0 m (z_pc mi pc) ls (st.map (z_cv q))) := by
  intro H locs ls hR
  obtain ⟨hP, hX, hS, hl, hlen⟩ := hR
  dsimp only at hP hX hS hl hlen
  obtain ⟨hx, hb, hml, hown, hts, hfr, hlo, htr⟩ := hC
  simp only [z_okb, z_d, Bool.and_eq_true, Bool.or_eq_true, decide_eq_true_eq] at hok
  simp only [z_ex] at hs
  split at hs
  · next x hlv =>
    cases hs
    have h9 := kk H locs ls ⟨hP, hX, hS, hl, hlen⟩
    dsimp only at h9
    have hat := z_al_at hl hlv rfl
    rcases hok with ⟨⟨hd, hn⟩, hv⟩ | ⟨hd, hn⟩
    · rw [hn] at h9
      exact lv_iload_n hx hb hd (Nat.mod_eq_of_lt hv) hat h9
    · rw [hn] at h9
      exact lv_iload hx hb hd hat h9
  · cases hs
set_option maxHeartbeats 1000000 in
theorem z_s2 {a ix kw : Nat} {b : Int} (hC : z_Cx l mi p R s m args c) (hF : z_Fx dC dI cI cZ cJ q A L X s s.heap) (hA : z_Ap q A) (hok : z_okb mi pc (2, a, b, ix, kw) = true) (hs : z_ex L pc lv st S 2 a b = some (.inl c2)) (hsl : slots ≤ R.slots) (hce : cells ≤ R.cells)
    (kk : ∀ H locs ls, z_Rl dC dI cI cZ cJ q A X s mi c2 H locs ls → W p l e R s m args below meth c H locs cells slots Q (F0 m (z_pc mi c2.1) ls (c2.2.2.1.map (z_cv q)))) :
    ∀ H locs ls, z_Rl dC dI cI cZ cJ q A X s mi (pc, lv, st, S) H locs ls → W p l e R s m args below meth c H locs cells slots Q (F0 m (z_pc mi pc) ls (st.map (z_cv q))) := by
  intro H locs ls hR
  obtain ⟨hP, hX, hS, hl, hlen⟩ := hR
  dsimp only at hP hX hS hl hlen
  obtain ⟨hx, hb, hml, hown, hts, hfr, hlo, htr⟩ := hC
  simp only [z_okb, z_d, Bool.and_eq_true, Bool.or_eq_true, decide_eq_true_eq] at hok
  simp only [z_ex] at hs
  split at hs
  · next x hlv =>
    cases hs
    have h9 := kk H locs ls ⟨hP, hX, hS, hl, hlen⟩
    dsimp only at h9
    have hat := z_al_at hl hlv rfl
    rcases hok with ⟨⟨hd, hn⟩, hv⟩ | ⟨hd, hn⟩
    · rw [hn] at h9
      exact lv_aload_n hx hb hd (Nat.mod_eq_of_lt hv) hat h9
    · rw [hn] at h9
      exact lv_aload hx hb hd hat h9
  · cases hs
set_option maxHeartbeats 1000000 in
theorem z_s3 {a ix kw : Nat} {b : Int} (hC : z_Cx l mi p R s m args c) (hF : z_Fx dC dI cI cZ cJ q A L X s s.heap) (hA : z_Ap q A) (hok : z_okb mi pc (3, a, b, ix, kw) = true) (hs : z_ex L pc lv st S 3 a b = some (.inl c2)) (hsl : slots ≤ R.slots) (hce : cells ≤ R.cells)
    (kk : ∀ H locs ls, z_Rl dC dI cI cZ cJ q A X s mi c2 H locs ls → W p l e R s m args below meth c H locs cells slots Q (F0 m (z_pc mi c2.1) ls (c2.2.2.1.map (z_cv q)))) :
    ∀ H locs ls, z_Rl dC dI cI cZ cJ q A X s mi (pc, lv, st, S) H locs ls → W p l e R s m args below meth c H locs cells slots Q (F0 m (z_pc mi pc) ls (st.map (z_cv q))) := by
  intro H locs ls hR
  obtain ⟨hP, hX, hS, hl, hlen⟩ := hR
  dsimp only at hP hX hS hl hlen
  obtain ⟨hx, hb, hml, hown, hts, hfr, hlo, htr⟩ := hC
  simp only [z_okb, z_d, Bool.and_eq_true, Bool.or_eq_true, decide_eq_true_eq] at hok
  simp only [z_ex] at hs
  split at hs
  · next x r =>
    split at hs
    · next ha =>
      cases hs
      have k9 : ∀ ls' : Array Slot, lv_has ls' (z_ml mi) ((a, z_cv q (.inl x)) :: (z_al q lv).filter (fun x => !(x.1 == a) && !(x.1 + 1 == a && x.2.category == 2))) → z_pc mi (pc + 1) = z_pc mi (pc + 1) → W p l e R s m args below meth c H locs cells slots Q (F0 m (z_pc mi (pc + 1)) ls' (r.map (z_cv q))) := fun ls' h' _ => kk H locs ls' ⟨hP, hX, hS, z_al_set ha rfl h', by rw [List.length_set]; exact hlen⟩
      rcases hok with ⟨⟨hd, hn⟩, hv⟩ | ⟨hd, hn⟩
      · rw [hn] at k9
        exact lv_istore_n hx hb hd (Nat.mod_eq_of_lt hv) hl (hlen ▸ ha) rfl (fun ls' h' => k9 ls' h' rfl)
      · rw [hn] at k9
        exact lv_istore hx hb hd hl (hlen ▸ ha) rfl (fun ls' h' => k9 ls' h' rfl)
    · cases hs
  · cases hs
set_option maxHeartbeats 1000000 in
theorem z_s4 {a ix kw : Nat} {b : Int} (hC : z_Cx l mi p R s m args c) (hF : z_Fx dC dI cI cZ cJ q A L X s s.heap) (hA : z_Ap q A) (hok : z_okb mi pc (4, a, b, ix, kw) = true) (hs : z_ex L pc lv st S 4 a b = some (.inl c2)) (hsl : slots ≤ R.slots) (hce : cells ≤ R.cells)
    (kk : ∀ H locs ls, z_Rl dC dI cI cZ cJ q A X s mi c2 H locs ls → W p l e R s m args below meth c H locs cells slots Q (F0 m (z_pc mi c2.1) ls (c2.2.2.1.map (z_cv q)))) :
    ∀ H locs ls, z_Rl dC dI cI cZ cJ q A X s mi (pc, lv, st, S) H locs ls → W p l e R s m args below meth c H locs cells slots Q (F0 m (z_pc mi pc) ls (st.map (z_cv q))) := by
  intro H locs ls hR
  obtain ⟨hP, hX, hS, hl, hlen⟩ := hR
  dsimp only at hP hX hS hl hlen
  obtain ⟨hx, hb, hml, hown, hts, hfr, hlo, htr⟩ := hC
  simp only [z_okb, z_d, Bool.and_eq_true, Bool.or_eq_true, decide_eq_true_eq] at hok
  simp only [z_ex] at hs
  split at hs
  · next x r =>
    split at hs
    · next ha =>
      cases hs
      have k9 : ∀ ls' : Array Slot, lv_has ls' (z_ml mi) ((a, z_cv q (.inr (.inr x))) :: (z_al q lv).filter (fun x => !(x.1 == a) && !(x.1 + 1 == a && x.2.category == 2))) → z_pc mi (pc + 1) = z_pc mi (pc + 1) → W p l e R s m args below meth c H locs cells slots Q (F0 m (z_pc mi (pc + 1)) ls' (r.map (z_cv q))) := fun ls' h' _ => kk H locs ls' ⟨hP, hX, hS, z_al_set ha rfl h', by rw [List.length_set]; exact hlen⟩
      rcases hok with ⟨⟨hd, hn⟩, hv⟩ | ⟨hd, hn⟩
      · rw [hn] at k9
        exact lv_astore_n hx hb hd (Nat.mod_eq_of_lt hv) hl (hlen ▸ ha) rfl (fun ls' h' => k9 ls' h' rfl)
      · rw [hn] at k9
        exact lv_astore hx hb hd hl (hlen ▸ ha) rfl (fun ls' h' => k9 ls' h' rfl)
    · cases hs
  · cases hs
set_option maxHeartbeats 1000000 in
theorem z_s5 {a ix kw : Nat} {b : Int} (hC : z_Cx l mi p R s m args c) (hF : z_Fx dC dI cI cZ cJ q A L X s s.heap) (hA : z_Ap q A) (hok : z_okb mi pc (5, a, b, ix, kw) = true) (hs : z_ex L pc lv st S 5 a b = some (.inl c2)) (hsl : slots ≤ R.slots) (hce : cells ≤ R.cells)
    (kk : ∀ H locs ls, z_Rl dC dI cI cZ cJ q A X s mi c2 H locs ls → W p l e R s m args below meth c H locs cells slots Q (F0 m (z_pc mi c2.1) ls (c2.2.2.1.map (z_cv q)))) :
    ∀ H locs ls, z_Rl dC dI cI cZ cJ q A X s mi (pc, lv, st, S) H locs ls → W p l e R s m args below meth c H locs cells slots Q (F0 m (z_pc mi pc) ls (st.map (z_cv q))) := by
  intro H locs ls hR
  obtain ⟨hP, hX, hS, hl, hlen⟩ := hR
  dsimp only at hP hX hS hl hlen
  obtain ⟨hx, hb, hml, hown, hts, hfr, hlo, htr⟩ := hC
  simp only [z_okb, z_d, Bool.and_eq_true, Bool.or_eq_true, decide_eq_true_eq] at hok
  simp only [z_ex] at hs
  split at hs
  · next x hlv =>
    cases hs
    obtain ⟨hd, hn⟩ := hok
    have ha := (List.getElem?_eq_some_iff.mp hlv).1
    obtain ⟨k9, hk9⟩ := List.getElem?_of_mem (z_al_in (q := q) hlv rfl)
    refine lv_iinc hx hb hd hl (k := k9) (x := x) hk9 rfl (hlen ▸ ha) rfl (fun ls' h' => ?_)
    have h9 := kk H locs ls' ⟨hP, hX, hS, z_al_set (v := .inl (x + Int32.ofInt b)) ha rfl h', by rw [List.length_set]; exact hlen⟩
    dsimp only at h9
    rw [hn] at h9
    exact h9
  · cases hs
set_option maxHeartbeats 1000000 in
theorem z_s6 {a ix kw : Nat} {b : Int} (hC : z_Cx l mi p R s m args c) (hF : z_Fx dC dI cI cZ cJ q A L X s s.heap) (hA : z_Ap q A) (hok : z_okb mi pc (6, a, b, ix, kw) = true) (hs : z_ex L pc lv st S 6 a b = some (.inl c2)) (hsl : slots ≤ R.slots) (hce : cells ≤ R.cells)
    (kk : ∀ H locs ls, z_Rl dC dI cI cZ cJ q A X s mi c2 H locs ls → W p l e R s m args below meth c H locs cells slots Q (F0 m (z_pc mi c2.1) ls (c2.2.2.1.map (z_cv q)))) :
    ∀ H locs ls, z_Rl dC dI cI cZ cJ q A X s mi (pc, lv, st, S) H locs ls → W p l e R s m args below meth c H locs cells slots Q (F0 m (z_pc mi pc) ls (st.map (z_cv q))) := by
  intro H locs ls hR
  obtain ⟨hP, hX, hS, hl, hlen⟩ := hR
  dsimp only at hP hX hS hl hlen
  obtain ⟨hx, hb, hml, hown, hts, hfr, hlo, htr⟩ := hC
  simp only [z_okb, z_d, z_fld, Bool.and_eq_true, Bool.or_eq_true, decide_eq_true_eq] at hok
  simp only [z_ex] at hs
  split at hs
  · next k r =>
    split at hs
    · next ci fk hlay =>
      split at hs
      · next hci =>
        subst hci
        obtain ⟨⟨hd, hn⟩, hf⟩ := hok
        split at hf
        · next C T N hcl =>
          simp only [Bool.and_eq_true, decide_eq_true_eq] at hf
          split at hs
          · next hfk =>
            cases hs
            have h9 := kk H locs ls ⟨hP, hX, hS, hl, hlen⟩
            dsimp only at h9
            rw [hn] at h9
            exact va_get (D := (dC, dI)) hx hb hts (z_inX _ _ hcl) hown hF.1 hP k (z_W_at S hlay) hcl _ hf.2 (hts _ (z_w_in hf.1)) (fun _ h => h) (z_fs_int _ hfk) hd h9
          · next j hfk =>
            cases hs
            have h9 := kk H locs ls ⟨hP, hX, hS, hl, hlen⟩
            dsimp only at h9
            rw [hn] at h9
            exact va_get (D := (dC, dI)) hx hb hts (z_inX _ _ hcl) hown hF.1 hP k (z_W_at S hlay) hcl _ hf.2 (hts _ (z_w_in hf.1)) (fun _ h => h) (z_fs_ref _ hfk) hd h9
          · cases hs
        · cases hf
      · cases hs
    · cases hs
  · cases hs
set_option maxHeartbeats 1000000 in
theorem z_s7 {a ix kw : Nat} {b : Int} (hC : z_Cx l mi p R s m args c) (hF : z_Fx dC dI cI cZ cJ q A L X s s.heap) (hA : z_Ap q A) (hok : z_okb mi pc (7, a, b, ix, kw) = true) (hs : z_ex L pc lv st S 7 a b = some (.inl c2)) (hsl : slots ≤ R.slots) (hce : cells ≤ R.cells)
    (kk : ∀ H locs ls, z_Rl dC dI cI cZ cJ q A X s mi c2 H locs ls → W p l e R s m args below meth c H locs cells slots Q (F0 m (z_pc mi c2.1) ls (c2.2.2.1.map (z_cv q)))) :
    ∀ H locs ls, z_Rl dC dI cI cZ cJ q A X s mi (pc, lv, st, S) H locs ls → W p l e R s m args below meth c H locs cells slots Q (F0 m (z_pc mi pc) ls (st.map (z_cv q))) := by
  intro H locs ls hR
  obtain ⟨hP, hX, hS, hl, hlen⟩ := hR
  dsimp only at hP hX hS hl hlen
  obtain ⟨hx, hb, hml, hown, hts, hfr, hlo, htr⟩ := hC
  simp only [z_okb, z_d, z_fld, z_put, Bool.and_eq_true, Bool.or_eq_true, decide_eq_true_eq] at hok
  simp only [z_ex] at hs
  split at hs
  · next x k r =>
    split at hs
    · next ci fk hlay =>
      split at hs
      · next hci =>
        subst hci
        obtain ⟨⟨⟨hd, hn⟩, hf⟩, hpt⟩ := hok
        split at hf
        · next C T N hcl =>
          rw [hcl] at hpt
          simp only [Bool.and_eq_true, decide_eq_true_eq] at hf hpt
          split at hs
          · next hfk =>
            cases hs
            refine va_put (D := (dC, dI)) (ty := .int) (v := .int x) hx hb hts (z_inX _ _ hcl) (z_ty ci) (z_tyok _ _ hcl) (z_nm _ _ hcl) hown hF.1 hP (hA.D S) hS k (z_W_at S hlay) hcl _ hf.2 (hts _ (z_w_in hf.1)) (fun _ h => h) hpt.1 hpt.2 rfl rfl (by rw [z_fs_len]; exact (List.getElem?_eq_some_iff.mp hfk).1) hd (fun H1 locs1 hP1 hD1 hS1 => ?_)
            rw [z_fs_set _ hfk, z_W_set (S' := z_up S k b.toNat x) hlay (by rw [z_up_at]; rfl) (fun i hi => z_up_ne _ _ _ _ _ hi)] at hP1
            have h9 := kk H1 locs1 ls ⟨hP1, (z_up_ne _ _ _ _ _ (fun e => z_lay_ne hlay e.symm)).trans hX, hS1, hl, hlen⟩
            dsimp only at h9
            rw [hn] at h9
            exact h9
          · cases hs
        · cases hf
      · cases hs
    · cases hs
  · cases hs
set_option maxHeartbeats 1000000 in
theorem z_s33 {a ix kw : Nat} {b : Int} (hC : z_Cx l mi p R s m args c) (hF : z_Fx dC dI cI cZ cJ q A L X s s.heap) (hA : z_Ap q A) (hok : z_okb mi pc (33, a, b, ix, kw) = true) (hs : z_ex L pc lv st S 33 a b = some (.inl c2)) (hsl : slots ≤ R.slots) (hce : cells ≤ R.cells)
    (kk : ∀ H locs ls, z_Rl dC dI cI cZ cJ q A X s mi c2 H locs ls → W p l e R s m args below meth c H locs cells slots Q (F0 m (z_pc mi c2.1) ls (c2.2.2.1.map (z_cv q)))) :
    ∀ H locs ls, z_Rl dC dI cI cZ cJ q A X s mi (pc, lv, st, S) H locs ls → W p l e R s m args below meth c H locs cells slots Q (F0 m (z_pc mi pc) ls (st.map (z_cv q))) := by
  intro H locs ls hR
  obtain ⟨hP, hX, hS, hl, hlen⟩ := hR
  dsimp only at hP hX hS hl hlen
  obtain ⟨hx, hb, hml, hown, hts, hfr, hlo, htr⟩ := hC
  simp only [z_okb, z_d, z_fld, z_put, Bool.and_eq_true, Bool.or_eq_true, decide_eq_true_eq] at hok
  simp only [z_ex] at hs
  split at hs
  · next x k r =>
    split at hs
    · next ci fk hlay =>
      split at hs
      · next hci =>
        subst hci
        obtain ⟨⟨⟨hd, hn⟩, hf⟩, hpt⟩ := hok
        split at hf
        · next C T N hcl =>
          rw [hcl] at hpt
          simp only [Bool.and_eq_true, decide_eq_true_eq] at hf hpt
          split at hs
          · next hfk =>
            split at hs
            · next hz =>
              cases hs
              refine va_put (D := (dC, dI)) (ty := .boolean) (v := .int x) hx hb hts (z_inX _ _ hcl) (z_ty ci) (z_tyok _ _ hcl) (z_nm _ _ hcl) hown hF.1 hP (hA.D S) hS k (z_W_at S hlay) hcl _ hf.2 (hts _ (z_w_in hf.1)) (fun _ h => h) hpt.1 hpt.2 (by rcases hz with rfl | rfl <;> rfl) (by rcases hz with rfl | rfl <;> rfl) (by rw [z_fs_len]; exact (List.getElem?_eq_some_iff.mp hfk).1) hd (fun H1 locs1 hP1 hD1 hS1 => ?_)
              rw [z_fs_set _ hfk, z_W_set (S' := z_up S k b.toNat x) hlay (by rw [z_up_at]; rfl) (fun i hi => z_up_ne _ _ _ _ _ hi)] at hP1
              have h9 := kk H1 locs1 ls ⟨hP1, (z_up_ne _ _ _ _ _ (fun e => z_lay_ne hlay e.symm)).trans hX, hS1, hl, hlen⟩
              dsimp only at h9
              rw [hn] at h9
              exact h9
            · cases hs
          · cases hs
        · cases hf
      · cases hs
    · cases hs
  · cases hs
set_option maxHeartbeats 1000000 in
theorem z_s8 {a ix kw : Nat} {b : Int} (hC : z_Cx l mi p R s m args c) (hF : z_Fx dC dI cI cZ cJ q A L X s s.heap) (hA : z_Ap q A) (hok : z_okb mi pc (8, a, b, ix, kw) = true) (hs : z_ex L pc lv st S 8 a b = some (.inl c2)) (hsl : slots ≤ R.slots) (hce : cells ≤ R.cells)
    (kk : ∀ H locs ls, z_Rl dC dI cI cZ cJ q A X s mi c2 H locs ls → W p l e R s m args below meth c H locs cells slots Q (F0 m (z_pc mi c2.1) ls (c2.2.2.1.map (z_cv q)))) :
    ∀ H locs ls, z_Rl dC dI cI cZ cJ q A X s mi (pc, lv, st, S) H locs ls → W p l e R s m args below meth c H locs cells slots Q (F0 m (z_pc mi pc) ls (st.map (z_cv q))) := by
  intro H locs ls hR
  obtain ⟨hP, hX, hS, hl, hlen⟩ := hR
  dsimp only at hP hX hS hl hlen
  obtain ⟨hx, hb, hml, hown, hts, hfr, hlo, htr⟩ := hC
  simp only [z_okb, z_d, Bool.and_eq_true, Bool.or_eq_true, decide_eq_true_eq] at hok
  simp only [z_ex] at hs
  split at hs
  · next i k r =>
    split at hs
    · next hk =>
      subst hk
      split at hs
      · cases hs
      · next hin =>
        cases hs
        obtain ⟨hd, hn⟩ := hok
        have h9 := kk H locs ls ⟨hP, hX, hS, hl, hlen⟩
        dsimp only at h9
        rw [hn] at h9
        rw [hX] at h9
        exact va_sld hx hb hF.2.2.2.2.1 hF.2.2.2.2.2.1 hA.2.2 hS hin hd h9
    · split at hs
      · next t n hlay =>
        split at hs
        · next ht =>
          subst ht
          split at hs
          · cases hs
          · next hin =>
            cases hs
            obtain ⟨hd, hn⟩ := hok
            have h9 := kk H locs ls ⟨hP, hX, hS, hl, hlen⟩
            dsimp only at h9
            rw [hn] at h9
            exact va_iald (D := (dC, dI)) hx hb hF.1 hP k 0 (z_W_at S hlay) rfl hin hd h9
        · cases hs
      · cases hs
  · cases hs
set_option maxHeartbeats 1000000 in
theorem z_s9 {a ix kw : Nat} {b : Int} (hC : z_Cx l mi p R s m args c) (hF : z_Fx dC dI cI cZ cJ q A L X s s.heap) (hA : z_Ap q A) (hok : z_okb mi pc (9, a, b, ix, kw) = true) (hs : z_ex L pc lv st S 9 a b = some (.inl c2)) (hsl : slots ≤ R.slots) (hce : cells ≤ R.cells)
    (kk : ∀ H locs ls, z_Rl dC dI cI cZ cJ q A X s mi c2 H locs ls → W p l e R s m args below meth c H locs cells slots Q (F0 m (z_pc mi c2.1) ls (c2.2.2.1.map (z_cv q)))) :
    ∀ H locs ls, z_Rl dC dI cI cZ cJ q A X s mi (pc, lv, st, S) H locs ls → W p l e R s m args below meth c H locs cells slots Q (F0 m (z_pc mi pc) ls (st.map (z_cv q))) := by
  intro H locs ls hR
  obtain ⟨hP, hX, hS, hl, hlen⟩ := hR
  dsimp only at hP hX hS hl hlen
  obtain ⟨hx, hb, hml, hown, hts, hfr, hlo, htr⟩ := hC
  simp only [z_okb, z_d, Bool.and_eq_true, Bool.or_eq_true, decide_eq_true_eq] at hok
  simp only [z_ex] at hs
  split at hs
  · next i k r =>
    split at hs
    · next t n hlay =>
      split at hs
      · next ht =>
        subst ht
        split at hs
        · cases hs
        · next hin =>
          cases hs
          obtain ⟨hd, hn⟩ := hok
          have h9 := kk H locs ls ⟨hP, hX, hS, hl, hlen⟩
          dsimp only at h9
          rw [hn] at h9
          exact va_zald (D := (dC, dI)) hx hb hF.1 hP k 1 (z_W_at S hlay) rfl hin hd h9
      · cases hs
    · cases hs
  · cases hs
set_option maxHeartbeats 1000000 in
theorem z_s37 {a ix kw : Nat} {b : Int} (hC : z_Cx l mi p R s m args c) (hF : z_Fx dC dI cI cZ cJ q A L X s s.heap) (hA : z_Ap q A) (hok : z_okb mi pc (37, a, b, ix, kw) = true) (hs : z_ex L pc lv st S 37 a b = some (.inl c2)) (hsl : slots ≤ R.slots) (hce : cells ≤ R.cells)
    (kk : ∀ H locs ls, z_Rl dC dI cI cZ cJ q A X s mi c2 H locs ls → W p l e R s m args below meth c H locs cells slots Q (F0 m (z_pc mi c2.1) ls (c2.2.2.1.map (z_cv q)))) :
    ∀ H locs ls, z_Rl dC dI cI cZ cJ q A X s mi (pc, lv, st, S) H locs ls → W p l e R s m args below meth c H locs cells slots Q (F0 m (z_pc mi pc) ls (st.map (z_cv q))) := by
  intro H locs ls hR
  obtain ⟨hP, hX, hS, hl, hlen⟩ := hR
  dsimp only at hP hX hS hl hlen
  obtain ⟨hx, hb, hml, hown, hts, hfr, hlo, htr⟩ := hC
  simp only [z_okb, z_d, Bool.and_eq_true, Bool.or_eq_true, decide_eq_true_eq] at hok
  simp only [z_ex] at hs
  split at hs
  · next i k r =>
    split at hs
    · next t n hlay =>
      split at hs
      · next ht =>
        subst ht
        split at hs
        · cases hs
        · next hin =>
          cases hs
          obtain ⟨hd, hn⟩ := hok
          have h9 := kk H locs ls ⟨hP, hX, hS, hl, hlen⟩
          dsimp only at h9
          rw [hn] at h9
          exact va_lald (D := (dC, dI)) hx hb hF.1 hP k 2 (z_W_at S hlay) rfl hin hd h9
      · cases hs
    · cases hs
  · cases hs
set_option maxHeartbeats 1000000 in
theorem z_s10 {a ix kw : Nat} {b : Int} (hC : z_Cx l mi p R s m args c) (hF : z_Fx dC dI cI cZ cJ q A L X s s.heap) (hA : z_Ap q A) (hok : z_okb mi pc (10, a, b, ix, kw) = true) (hs : z_ex L pc lv st S 10 a b = some (.inl c2)) (hsl : slots ≤ R.slots) (hce : cells ≤ R.cells)
    (kk : ∀ H locs ls, z_Rl dC dI cI cZ cJ q A X s mi c2 H locs ls → W p l e R s m args below meth c H locs cells slots Q (F0 m (z_pc mi c2.1) ls (c2.2.2.1.map (z_cv q)))) :
    ∀ H locs ls, z_Rl dC dI cI cZ cJ q A X s mi (pc, lv, st, S) H locs ls → W p l e R s m args below meth c H locs cells slots Q (F0 m (z_pc mi pc) ls (st.map (z_cv q))) := by
  intro H locs ls hR
  obtain ⟨hP, hX, hS, hl, hlen⟩ := hR
  dsimp only at hP hX hS hl hlen
  obtain ⟨hx, hb, hml, hown, hts, hfr, hlo, htr⟩ := hC
  simp only [z_okb, z_d, Bool.and_eq_true, Bool.or_eq_true, decide_eq_true_eq] at hok
  simp only [z_ex] at hs
  split at hs
  · next x i k r =>
    split at hs
    · next t n hlay =>
      split at hs
      · next ht =>
        subst ht
        split at hs
        · cases hs
        · next hin =>
          cases hs
          obtain ⟨hd, hn⟩ := hok
          refine va_iast (D := (dC, dI)) hx hb hF.1 hP (hA.D S) hS k 0 (z_W_at S hlay) rfl hin hd (fun H1 locs1 hP1 hD1 hS1 => ?_)
          rw [z_W_set (S' := z_up S k i.toNatClampNeg x) hlay (by rw [z_up_at]; rfl) (fun i hi => z_up_ne _ _ _ _ _ hi)] at hP1
          have h9 := kk H1 locs1 ls ⟨hP1, (z_up_ne _ _ _ _ _ (fun e => z_lay_ne hlay e.symm)).trans hX, hS1, hl, hlen⟩
          dsimp only at h9
          rw [hn] at h9
          exact h9
      · cases hs
    · cases hs
  · cases hs
set_option maxHeartbeats 1000000 in
theorem z_s11 {a ix kw : Nat} {b : Int} (hC : z_Cx l mi p R s m args c) (hF : z_Fx dC dI cI cZ cJ q A L X s s.heap) (hA : z_Ap q A) (hok : z_okb mi pc (11, a, b, ix, kw) = true) (hs : z_ex L pc lv st S 11 a b = some (.inl c2)) (hsl : slots ≤ R.slots) (hce : cells ≤ R.cells)
    (kk : ∀ H locs ls, z_Rl dC dI cI cZ cJ q A X s mi c2 H locs ls → W p l e R s m args below meth c H locs cells slots Q (F0 m (z_pc mi c2.1) ls (c2.2.2.1.map (z_cv q)))) :
    ∀ H locs ls, z_Rl dC dI cI cZ cJ q A X s mi (pc, lv, st, S) H locs ls → W p l e R s m args below meth c H locs cells slots Q (F0 m (z_pc mi pc) ls (st.map (z_cv q))) := by
  intro H locs ls hR
  obtain ⟨hP, hX, hS, hl, hlen⟩ := hR
  dsimp only at hP hX hS hl hlen
  obtain ⟨hx, hb, hml, hown, hts, hfr, hlo, htr⟩ := hC
  simp only [z_okb, z_d, Bool.and_eq_true, Bool.or_eq_true, decide_eq_true_eq] at hok
  simp only [z_ex] at hs
  split at hs
  · next x i k r =>
    split at hs
    · next t n hlay =>
      split at hs
      · next ht =>
        subst ht
        split at hs
        · cases hs
        · next hin =>
          split at hs
          · next hz =>
            cases hs
            obtain ⟨hd, hn⟩ := hok
            refine va_zast (D := (dC, dI)) hx hb hF.1 hP (hA.D S) hS k 1 (z_W_at S hlay) rfl hin hd (fun H1 locs1 hP1 hD1 hS1 => ?_)
            rw [z_W_set (S' := z_up S k i.toNatClampNeg x) hlay (by rw [z_up_at]; rcases hz with rfl | rfl <;> rfl) (fun i hi => z_up_ne _ _ _ _ _ hi)] at hP1
            have h9 := kk H1 locs1 ls ⟨hP1, (z_up_ne _ _ _ _ _ (fun e => z_lay_ne hlay e.symm)).trans hX, hS1, hl, hlen⟩
            dsimp only at h9
            rw [hn] at h9
            exact h9
          · cases hs
      · cases hs
    · cases hs
  · cases hs
set_option maxHeartbeats 1000000 in
theorem z_s31 {a ix kw : Nat} {b : Int} (hC : z_Cx l mi p R s m args c) (hF : z_Fx dC dI cI cZ cJ q A L X s s.heap) (hA : z_Ap q A) (hok : z_okb mi pc (31, a, b, ix, kw) = true) (hs : z_ex L pc lv st S 31 a b = some (.inl c2)) (hsl : slots ≤ R.slots) (hce : cells ≤ R.cells)
    (kk : ∀ H locs ls, z_Rl dC dI cI cZ cJ q A X s mi c2 H locs ls → W p l e R s m args below meth c H locs cells slots Q (F0 m (z_pc mi c2.1) ls (c2.2.2.1.map (z_cv q)))) :
    ∀ H locs ls, z_Rl dC dI cI cZ cJ q A X s mi (pc, lv, st, S) H locs ls → W p l e R s m args below meth c H locs cells slots Q (F0 m (z_pc mi pc) ls (st.map (z_cv q))) := by
  intro H locs ls hR
  obtain ⟨hP, hX, hS, hl, hlen⟩ := hR
  dsimp only at hP hX hS hl hlen
  obtain ⟨hx, hb, hml, hown, hts, hfr, hlo, htr⟩ := hC
  simp only [z_okb, z_d, Bool.and_eq_true, Bool.or_eq_true, decide_eq_true_eq] at hok
  simp only [z_ex] at hs
  split at hs
  · next x i k r =>
    split at hs
    · next t n hlay =>
      split at hs
      · next ht =>
        subst ht
        split at hs
        · cases hs
        · next hin =>
          cases hs
          obtain ⟨hd, hn⟩ := hok
          refine va_last (D := (dC, dI)) hx hb hF.1 hP (hA.D S) hS k 2 (z_W_at S hlay) rfl hin hd (fun H1 locs1 hP1 hD1 hS1 => ?_)
          rw [z_W_set (S' := z_up S k i.toNatClampNeg x) hlay (by rw [z_up_at]; show (.inl (cJ, n, .inr (.inl fun j => (upd (S k) i.toNatClampNeg x j).toInt64)) : va_E) = _; congr 5; funext j; unfold upd vp_updL; split <;> rfl) (fun i hi => z_up_ne _ _ _ _ _ hi)] at hP1
          have h9 := kk H1 locs1 ls ⟨hP1, (z_up_ne _ _ _ _ _ (fun e => z_lay_ne hlay e.symm)).trans hX, hS1, hl, hlen⟩
          dsimp only at h9
          rw [hn] at h9
          exact h9
      · cases hs
    · cases hs
  · cases hs
set_option maxHeartbeats 1000000 in
theorem z_s12 {a ix kw : Nat} {b : Int} (hC : z_Cx l mi p R s m args c) (hF : z_Fx dC dI cI cZ cJ q A L X s s.heap) (hA : z_Ap q A) (hok : z_okb mi pc (12, a, b, ix, kw) = true) (hs : z_ex L pc lv st S 12 a b = some (.inl c2)) (hsl : slots ≤ R.slots) (hce : cells ≤ R.cells)
    (kk : ∀ H locs ls, z_Rl dC dI cI cZ cJ q A X s mi c2 H locs ls → W p l e R s m args below meth c H locs cells slots Q (F0 m (z_pc mi c2.1) ls (c2.2.2.1.map (z_cv q)))) :
    ∀ H locs ls, z_Rl dC dI cI cZ cJ q A X s mi (pc, lv, st, S) H locs ls → W p l e R s m args below meth c H locs cells slots Q (F0 m (z_pc mi pc) ls (st.map (z_cv q))) := by
  intro H locs ls hR
  obtain ⟨hP, hX, hS, hl, hlen⟩ := hR
  dsimp only at hP hX hS hl hlen
  obtain ⟨hx, hb, hml, hown, hts, hfr, hlo, htr⟩ := hC
  simp only [z_okb, z_d, Bool.and_eq_true, Bool.or_eq_true, decide_eq_true_eq] at hok
  simp only [z_ex] at hs
  split at hs
  · next k r =>
    obtain ⟨hd, hn⟩ := hok
    split at hs
    · next hk =>
      subst hk
      cases hs
      have h9 := kk H locs ls ⟨hP, hX, hS, hl, hlen⟩
      dsimp only at h9
      rw [hn] at h9
      exact va_slen hx hb hF.2.2.2.2.1 hF.2.2.2.2.2.1 hA.2.2 hS hd h9
    · split at hs
      · next t n hlay =>
        cases hs
        have h9 := kk H locs ls ⟨hP, hX, hS, hl, hlen⟩
        dsimp only at h9
        rw [hn] at h9
        have hw := z_W_at (cI := cI) (cZ := cZ) (cJ := cJ) (q := q) S hlay
        dsimp only [z_el] at hw
        by_cases h2 : t = 2
        · rw [if_pos h2] at hw
          exact va_alen (D := (dC, dI)) hx hb hF.1 hP k 2 hw (ty := .long) rfl rfl hd h9
        · rw [if_neg h2] at hw
          by_cases h0 : t = 0
          · rw [if_pos h0] at hw
            exact va_alen (D := (dC, dI)) hx hb hF.1 hP k 0 hw (ty := .int) rfl rfl hd h9
          · rw [if_neg h0] at hw
            exact va_alen (D := (dC, dI)) hx hb hF.1 hP k 1 hw (ty := .boolean) rfl rfl hd h9
      · cases hs
  · cases hs
set_option maxHeartbeats 1000000 in
theorem z_s13 {a ix kw : Nat} {b : Int} (hC : z_Cx l mi p R s m args c) (hF : z_Fx dC dI cI cZ cJ q A L X s s.heap) (hA : z_Ap q A) (hok : z_okb mi pc (13, a, b, ix, kw) = true) (hs : z_ex L pc lv st S 13 a b = some (.inl c2)) (hsl : slots ≤ R.slots) (hce : cells ≤ R.cells)
    (kk : ∀ H locs ls, z_Rl dC dI cI cZ cJ q A X s mi c2 H locs ls → W p l e R s m args below meth c H locs cells slots Q (F0 m (z_pc mi c2.1) ls (c2.2.2.1.map (z_cv q)))) :
    ∀ H locs ls, z_Rl dC dI cI cZ cJ q A X s mi (pc, lv, st, S) H locs ls → W p l e R s m args below meth c H locs cells slots Q (F0 m (z_pc mi pc) ls (st.map (z_cv q))) := by
  intro H locs ls hR
  obtain ⟨hP, hX, hS, hl, hlen⟩ := hR
  dsimp only at hP hX hS hl hlen
  obtain ⟨hx, hb, hml, hown, hts, hfr, hlo, htr⟩ := hC
  simp only [z_okb, z_d, Bool.and_eq_true, Bool.or_eq_true, decide_eq_true_eq] at hok
  simp only [z_ex] at hs
  split at hs
  · next y x r =>
    split at hs
    · next v hv =>
      cases hs
      obtain ⟨hd, hn⟩ := hok
      have h9 := kk H locs ls ⟨hP, hX, hS, hl, hlen⟩
      dsimp only at h9
      rw [hn] at h9
      match a, hv, hd with
      | 0, hv, hd => cases hv; exact lv_iadd hx hb hd h9
      | 1, hv, hd => cases hv; exact lv_isub hx hb hd h9
      | 2, hv, hd => cases hv; exact lv_imul hx hb hd h9
      | 3, hv, hd =>
        simp only [z_bin] at hv
        split at hv
        · cases hv
        · next hne => cases hv; exact lv_idiv hx hb hd hne h9
      | 4, hv, hd =>
        simp only [z_bin] at hv
        split at hv
        · cases hv
        · next hne => cases hv; exact lv_irem hx hb hd hne h9
      | 5, hv, hd => cases hv; exact lv_iand hx hb hd h9
      | 6, hv, hd => cases hv; exact lv_ior hx hb hd h9
      | 7, hv, hd => cases hv; exact lv_ixor hx hb hd h9
      | 8, hv, hd => cases hv; exact lv_ishl hx hb hd h9
      | 9, hv, hd => cases hv; exact lv_ishr hx hb hd h9
      | 10, hv, hd => cases hv; exact lv_iushr hx hb hd rfl h9
      | n + 11, hv, hd => cases hv
    · cases hs
  · cases hs
set_option maxHeartbeats 1000000 in
theorem z_s14 {a ix kw : Nat} {b : Int} (hC : z_Cx l mi p R s m args c) (hF : z_Fx dC dI cI cZ cJ q A L X s s.heap) (hA : z_Ap q A) (hok : z_okb mi pc (14, a, b, ix, kw) = true) (hs : z_ex L pc lv st S 14 a b = some (.inl c2)) (hsl : slots ≤ R.slots) (hce : cells ≤ R.cells)
    (kk : ∀ H locs ls, z_Rl dC dI cI cZ cJ q A X s mi c2 H locs ls → W p l e R s m args below meth c H locs cells slots Q (F0 m (z_pc mi c2.1) ls (c2.2.2.1.map (z_cv q)))) :
    ∀ H locs ls, z_Rl dC dI cI cZ cJ q A X s mi (pc, lv, st, S) H locs ls → W p l e R s m args below meth c H locs cells slots Q (F0 m (z_pc mi pc) ls (st.map (z_cv q))) := by
  intro H locs ls hR
  obtain ⟨hP, hX, hS, hl, hlen⟩ := hR
  dsimp only at hP hX hS hl hlen
  obtain ⟨hx, hb, hml, hown, hts, hfr, hlo, htr⟩ := hC
  simp only [z_okb, z_d, Bool.and_eq_true, Bool.or_eq_true, decide_eq_true_eq] at hok
  simp only [z_ex] at hs
  split at hs
  · next v r =>
    split at hs
    · next hv =>
      cases hs
      obtain ⟨hd, hn⟩ := hok
      have h9 := kk H locs ls ⟨hP, hX, hS, hl, hlen⟩
      dsimp only at h9
      rw [hn] at h9
      exact lv_dup hx hb hd (by rw [z_cv_cat]; exact hv) h9
    · cases hs
  · cases hs
set_option maxHeartbeats 1000000 in
theorem z_s15 {a ix kw : Nat} {b : Int} (hC : z_Cx l mi p R s m args c) (hF : z_Fx dC dI cI cZ cJ q A L X s s.heap) (hA : z_Ap q A) (hok : z_okb mi pc (15, a, b, ix, kw) = true) (hs : z_ex L pc lv st S 15 a b = some (.inl c2)) (hsl : slots ≤ R.slots) (hce : cells ≤ R.cells)
    (kk : ∀ H locs ls, z_Rl dC dI cI cZ cJ q A X s mi c2 H locs ls → W p l e R s m args below meth c H locs cells slots Q (F0 m (z_pc mi c2.1) ls (c2.2.2.1.map (z_cv q)))) :
    ∀ H locs ls, z_Rl dC dI cI cZ cJ q A X s mi (pc, lv, st, S) H locs ls → W p l e R s m args below meth c H locs cells slots Q (F0 m (z_pc mi pc) ls (st.map (z_cv q))) := by
  intro H locs ls hR
  obtain ⟨hP, hX, hS, hl, hlen⟩ := hR
  dsimp only at hP hX hS hl hlen
  obtain ⟨hx, hb, hml, hown, hts, hfr, hlo, htr⟩ := hC
  simp only [z_okb, z_d, Bool.and_eq_true, Bool.or_eq_true, decide_eq_true_eq] at hok
  simp only [z_ex] at hs
  split at hs
  · next v u r =>
    split at hs
    · next hv =>
      cases hs
      obtain ⟨hd, hn⟩ := hok
      have h9 := kk H locs ls ⟨hP, hX, hS, hl, hlen⟩
      dsimp only at h9
      rw [hn] at h9
      exact lv_dup2_11 hx hb hd (by rw [z_cv_cat]; exact hv.1) (by rw [z_cv_cat]; exact hv.2) h9
    · cases hs
  · cases hs
set_option maxHeartbeats 1000000 in
theorem z_s16 {a ix kw : Nat} {b : Int} (hC : z_Cx l mi p R s m args c) (hF : z_Fx dC dI cI cZ cJ q A L X s s.heap) (hA : z_Ap q A) (hok : z_okb mi pc (16, a, b, ix, kw) = true) (hs : z_ex L pc lv st S 16 a b = some (.inl c2)) (hsl : slots ≤ R.slots) (hce : cells ≤ R.cells)
    (kk : ∀ H locs ls, z_Rl dC dI cI cZ cJ q A X s mi c2 H locs ls → W p l e R s m args below meth c H locs cells slots Q (F0 m (z_pc mi c2.1) ls (c2.2.2.1.map (z_cv q)))) :
    ∀ H locs ls, z_Rl dC dI cI cZ cJ q A X s mi (pc, lv, st, S) H locs ls → W p l e R s m args below meth c H locs cells slots Q (F0 m (z_pc mi pc) ls (st.map (z_cv q))) := by
  intro H locs ls hR
  obtain ⟨hP, hX, hS, hl, hlen⟩ := hR
  dsimp only at hP hX hS hl hlen
  obtain ⟨hx, hb, hml, hown, hts, hfr, hlo, htr⟩ := hC
  simp only [z_okb, z_d, Bool.and_eq_true, Bool.or_eq_true, decide_eq_true_eq] at hok
  simp only [z_ex] at hs
  split at hs
  · next v r =>
    split at hs
    · next hv =>
      cases hs
      obtain ⟨hd, hn⟩ := hok
      have h9 := kk H locs ls ⟨hP, hX, hS, hl, hlen⟩
      dsimp only at h9
      rw [hn] at h9
      exact lv_pop hx hb hd (by rw [z_cv_cat]; exact hv) h9
    · cases hs
  · cases hs
set_option maxHeartbeats 1000000 in
theorem z_s17 {a ix kw : Nat} {b : Int} (hC : z_Cx l mi p R s m args c) (hF : z_Fx dC dI cI cZ cJ q A L X s s.heap) (hA : z_Ap q A) (hok : z_okb mi pc (17, a, b, ix, kw) = true) (hs : z_ex L pc lv st S 17 a b = some (.inl c2)) (hsl : slots ≤ R.slots) (hce : cells ≤ R.cells)
    (kk : ∀ H locs ls, z_Rl dC dI cI cZ cJ q A X s mi c2 H locs ls → W p l e R s m args below meth c H locs cells slots Q (F0 m (z_pc mi c2.1) ls (c2.2.2.1.map (z_cv q)))) :
    ∀ H locs ls, z_Rl dC dI cI cZ cJ q A X s mi (pc, lv, st, S) H locs ls → W p l e R s m args below meth c H locs cells slots Q (F0 m (z_pc mi pc) ls (st.map (z_cv q))) := by
  intro H locs ls hR
  obtain ⟨hP, hX, hS, hl, hlen⟩ := hR
  dsimp only at hP hX hS hl hlen
  obtain ⟨hx, hb, hml, hown, hts, hfr, hlo, htr⟩ := hC
  simp only [z_okb, z_d, Bool.and_eq_true, Bool.or_eq_true, decide_eq_true_eq] at hok
  simp only [z_ex] at hs
  cases hs
  split at hok
  · next off hd =>
    simp only [decide_eq_true_eq] at hok
    exact lv_goto hx hb hd hok (kk H locs ls ⟨hP, hX, hS, hl, hlen⟩)
  · cases hok
set_option maxHeartbeats 1000000 in
theorem z_s18 {a ix kw : Nat} {b : Int} (hC : z_Cx l mi p R s m args c) (hF : z_Fx dC dI cI cZ cJ q A L X s s.heap) (hA : z_Ap q A) (hok : z_okb mi pc (18, a, b, ix, kw) = true) (hs : z_ex L pc lv st S 18 a b = some (.inl c2)) (hsl : slots ≤ R.slots) (hce : cells ≤ R.cells)
    (kk : ∀ H locs ls, z_Rl dC dI cI cZ cJ q A X s mi c2 H locs ls → W p l e R s m args below meth c H locs cells slots Q (F0 m (z_pc mi c2.1) ls (c2.2.2.1.map (z_cv q)))) :
    ∀ H locs ls, z_Rl dC dI cI cZ cJ q A X s mi (pc, lv, st, S) H locs ls → W p l e R s m args below meth c H locs cells slots Q (F0 m (z_pc mi pc) ls (st.map (z_cv q))) := by
  intro H locs ls hR
  obtain ⟨hP, hX, hS, hl, hlen⟩ := hR
  dsimp only at hP hX hS hl hlen
  obtain ⟨hx, hb, hml, hown, hts, hfr, hlo, htr⟩ := hC
  simp only [z_okb, z_d, Bool.and_eq_true, Bool.or_eq_true, decide_eq_true_eq] at hok
  simp only [z_ex] at hs
  split at hs
  · next x r =>
    split at hok
    · next cd off hd =>
      simp only [Bool.and_eq_true, decide_eq_true_eq] at hok
      obtain ⟨⟨ht, hn⟩, hc⟩ := hok
      rw [← hc] at hs
      cases cd
      · simp only [z_ifk, z_br] at hs
        refine lv_if_eq hx hb hd ht (fun h => ?_) (fun h => ?_)
        · rw [if_pos h] at hs
          cases hs
          have h9 := kk H locs ls ⟨hP, hX, hS, hl, hlen⟩
          dsimp only at h9
          exact h9
        · rw [if_neg h] at hs
          cases hs
          have h9 := kk H locs ls ⟨hP, hX, hS, hl, hlen⟩
          dsimp only at h9
          rw [hn] at h9
          exact h9
      · simp only [z_ifk, z_br] at hs
        refine lv_if_ne hx hb hd ht (fun h => ?_) (fun h => ?_)
        · rw [if_neg h] at hs
          cases hs
          have h9 := kk H locs ls ⟨hP, hX, hS, hl, hlen⟩
          dsimp only at h9
          exact h9
        · rw [if_pos h] at hs
          cases hs
          have h9 := kk H locs ls ⟨hP, hX, hS, hl, hlen⟩
          dsimp only at h9
          rw [hn] at h9
          exact h9
      · simp only [z_ifk, z_br] at hs
        refine lv_if_lt hx hb hd ht (fun h => ?_) (fun h => ?_)
        · rw [if_pos h] at hs
          cases hs
          have h9 := kk H locs ls ⟨hP, hX, hS, hl, hlen⟩
          dsimp only at h9
          exact h9
        · rw [if_neg h] at hs
          cases hs
          have h9 := kk H locs ls ⟨hP, hX, hS, hl, hlen⟩
          dsimp only at h9
          rw [hn] at h9
          exact h9
      · simp only [z_ifk, z_br] at hs
        refine lv_if_ge hx hb hd ht (fun h => ?_) (fun h => ?_)
        · rw [if_pos h] at hs
          cases hs
          have h9 := kk H locs ls ⟨hP, hX, hS, hl, hlen⟩
          dsimp only at h9
          exact h9
        · rw [if_neg h] at hs
          cases hs
          have h9 := kk H locs ls ⟨hP, hX, hS, hl, hlen⟩
          dsimp only at h9
          rw [hn] at h9
          exact h9
      · simp only [z_ifk, z_br] at hs
        refine lv_if_gt hx hb hd ht (fun h => ?_) (fun h => ?_)
        · rw [if_pos h] at hs
          cases hs
          have h9 := kk H locs ls ⟨hP, hX, hS, hl, hlen⟩
          dsimp only at h9
          exact h9
        · rw [if_neg h] at hs
          cases hs
          have h9 := kk H locs ls ⟨hP, hX, hS, hl, hlen⟩
          dsimp only at h9
          rw [hn] at h9
          exact h9
      · simp only [z_ifk, z_br] at hs
        refine lv_if_le hx hb hd ht (fun h => ?_) (fun h => ?_)
        · rw [if_pos h] at hs
          cases hs
          have h9 := kk H locs ls ⟨hP, hX, hS, hl, hlen⟩
          dsimp only at h9
          exact h9
        · rw [if_neg h] at hs
          cases hs
          have h9 := kk H locs ls ⟨hP, hX, hS, hl, hlen⟩
          dsimp only at h9
          rw [hn] at h9
          exact h9
    · cases hok
  · cases hs
set_option maxHeartbeats 1000000 in
theorem z_s19 {a ix kw : Nat} {b : Int} (hC : z_Cx l mi p R s m args c) (hF : z_Fx dC dI cI cZ cJ q A L X s s.heap) (hA : z_Ap q A) (hok : z_okb mi pc (19, a, b, ix, kw) = true) (hs : z_ex L pc lv st S 19 a b = some (.inl c2)) (hsl : slots ≤ R.slots) (hce : cells ≤ R.cells)
    (kk : ∀ H locs ls, z_Rl dC dI cI cZ cJ q A X s mi c2 H locs ls → W p l e R s m args below meth c H locs cells slots Q (F0 m (z_pc mi c2.1) ls (c2.2.2.1.map (z_cv q)))) :
    ∀ H locs ls, z_Rl dC dI cI cZ cJ q A X s mi (pc, lv, st, S) H locs ls → W p l e R s m args below meth c H locs cells slots Q (F0 m (z_pc mi pc) ls (st.map (z_cv q))) := by
  intro H locs ls hR
  obtain ⟨hP, hX, hS, hl, hlen⟩ := hR
  dsimp only at hP hX hS hl hlen
  obtain ⟨hx, hb, hml, hown, hts, hfr, hlo, htr⟩ := hC
  simp only [z_okb, z_d, Bool.and_eq_true, Bool.or_eq_true, decide_eq_true_eq] at hok
  simp only [z_ex] at hs
  split at hs
  · next y x r =>
    split at hok
    · next cd off hd =>
      simp only [Bool.and_eq_true, decide_eq_true_eq] at hok
      obtain ⟨⟨ht, hn⟩, hc⟩ := hok
      rw [← hc] at hs
      cases cd
      · simp only [z_ifk, z_br] at hs
        refine lv_icmp_eq hx hb hd ht (fun h => ?_) (fun h => ?_)
        · rw [if_pos h] at hs
          cases hs
          have h9 := kk H locs ls ⟨hP, hX, hS, hl, hlen⟩
          dsimp only at h9
          exact h9
        · rw [if_neg h] at hs
          cases hs
          have h9 := kk H locs ls ⟨hP, hX, hS, hl, hlen⟩
          dsimp only at h9
          rw [hn] at h9
          exact h9
      · simp only [z_ifk, z_br] at hs
        refine lv_icmp_ne hx hb hd ht (fun h => ?_) (fun h => ?_)
        · rw [if_neg h] at hs
          cases hs
          have h9 := kk H locs ls ⟨hP, hX, hS, hl, hlen⟩
          dsimp only at h9
          exact h9
        · rw [if_pos h] at hs
          cases hs
          have h9 := kk H locs ls ⟨hP, hX, hS, hl, hlen⟩
          dsimp only at h9
          rw [hn] at h9
          exact h9
      · simp only [z_ifk, z_br] at hs
        refine lv_icmp_lt hx hb hd ht (fun h => ?_) (fun h => ?_)
        · rw [if_pos h] at hs
          cases hs
          have h9 := kk H locs ls ⟨hP, hX, hS, hl, hlen⟩
          dsimp only at h9
          exact h9
        · rw [if_neg h] at hs
          cases hs
          have h9 := kk H locs ls ⟨hP, hX, hS, hl, hlen⟩
          dsimp only at h9
          rw [hn] at h9
          exact h9
      · simp only [z_ifk, z_br] at hs
        refine lv_icmp_ge hx hb hd ht (fun h => ?_) (fun h => ?_)
        · rw [if_pos h] at hs
          cases hs
          have h9 := kk H locs ls ⟨hP, hX, hS, hl, hlen⟩
          dsimp only at h9
          exact h9
        · rw [if_neg h] at hs
          cases hs
          have h9 := kk H locs ls ⟨hP, hX, hS, hl, hlen⟩
          dsimp only at h9
          rw [hn] at h9
          exact h9
      · simp only [z_ifk, z_br] at hs
        refine lv_icmp_gt hx hb hd ht (fun h => ?_) (fun h => ?_)
        · rw [if_pos h] at hs
          cases hs
          have h9 := kk H locs ls ⟨hP, hX, hS, hl, hlen⟩
          dsimp only at h9
          exact h9
        · rw [if_neg h] at hs
          cases hs
          have h9 := kk H locs ls ⟨hP, hX, hS, hl, hlen⟩
          dsimp only at h9
          rw [hn] at h9
          exact h9
      · simp only [z_ifk, z_br] at hs
        refine lv_icmp_le hx hb hd ht (fun h => ?_) (fun h => ?_)
        · rw [if_pos h] at hs
          cases hs
          have h9 := kk H locs ls ⟨hP, hX, hS, hl, hlen⟩
          dsimp only at h9
          exact h9
        · rw [if_neg h] at hs
          cases hs
          have h9 := kk H locs ls ⟨hP, hX, hS, hl, hlen⟩
          dsimp only at h9
          rw [hn] at h9
          exact h9
    · cases hok
  · cases hs
set_option maxHeartbeats 1000000 in
theorem z_s23 {a ix kw : Nat} {b : Int} (hC : z_Cx l mi p R s m args c) (hF : z_Fx dC dI cI cZ cJ q A L X s s.heap) (hA : z_Ap q A) (hok : z_okb mi pc (23, a, b, ix, kw) = true) (hs : z_ex L pc lv st S 23 a b = some (.inl c2)) (hsl : slots ≤ R.slots) (hce : cells ≤ R.cells)
    (kk : ∀ H locs ls, z_Rl dC dI cI cZ cJ q A X s mi c2 H locs ls → W p l e R s m args below meth c H locs cells slots Q (F0 m (z_pc mi c2.1) ls (c2.2.2.1.map (z_cv q)))) :
    ∀ H locs ls, z_Rl dC dI cI cZ cJ q A X s mi (pc, lv, st, S) H locs ls → W p l e R s m args below meth c H locs cells slots Q (F0 m (z_pc mi pc) ls (st.map (z_cv q))) := by
  intro H locs ls hR
  obtain ⟨hP, hX, hS, hl, hlen⟩ := hR
  dsimp only at hP hX hS hl hlen
  obtain ⟨hx, hb, hml, hown, hts, hfr, hlo, htr⟩ := hC
  simp only [z_okb, z_d, Bool.and_eq_true, Bool.or_eq_true, decide_eq_true_eq] at hok
  simp only [z_ex] at hs
  split at hs
  · next y x r =>
    split at hs
    · next hr =>
      cases hs
      obtain ⟨⟨⟨⟨hd, hn⟩, hw⟩, h1⟩, h2⟩ := hok
      have h9 := kk H locs ls ⟨hP, hX, hS, hl, hlen⟩
      dsimp only at h9
      rw [hn] at h9
      exact va_mmax hx hb (by rw [hml]; exact hl.1.symm) hown (hts _ (z_w_in hw)) (hts _ z_max_st) (hts _ z_mathini) (hts _ z_max_code) (by omega) (by rw [z_cats_eq]; omega) hce hsl hd h9
    · cases hs
  · cases hs
set_option maxHeartbeats 1000000 in
theorem z_s24 {a ix kw : Nat} {b : Int} (hC : z_Cx l mi p R s m args c) (hF : z_Fx dC dI cI cZ cJ q A L X s s.heap) (hA : z_Ap q A) (hok : z_okb mi pc (24, a, b, ix, kw) = true) (hs : z_ex L pc lv st S 24 a b = some (.inl c2)) (hsl : slots ≤ R.slots) (hce : cells ≤ R.cells)
    (kk : ∀ H locs ls, z_Rl dC dI cI cZ cJ q A X s mi c2 H locs ls → W p l e R s m args below meth c H locs cells slots Q (F0 m (z_pc mi c2.1) ls (c2.2.2.1.map (z_cv q)))) :
    ∀ H locs ls, z_Rl dC dI cI cZ cJ q A X s mi (pc, lv, st, S) H locs ls → W p l e R s m args below meth c H locs cells slots Q (F0 m (z_pc mi pc) ls (st.map (z_cv q))) := by
  intro H locs ls hR
  obtain ⟨hP, hX, hS, hl, hlen⟩ := hR
  dsimp only at hP hX hS hl hlen
  obtain ⟨hx, hb, hml, hown, hts, hfr, hlo, htr⟩ := hC
  simp only [z_okb, z_d, Bool.and_eq_true, Bool.or_eq_true, decide_eq_true_eq] at hok
  simp only [z_ex] at hs
  split at hs
  · next y x r =>
    split at hs
    · next hr =>
      cases hs
      obtain ⟨⟨⟨⟨hd, hn⟩, hw⟩, h1⟩, h2⟩ := hok
      have h9 := kk H locs ls ⟨hP, hX, hS, hl, hlen⟩
      dsimp only at h9
      rw [hn] at h9
      exact va_mmin hx hb (by rw [hml]; exact hl.1.symm) hown (hts _ (z_w_in hw)) (hts _ z_min_st) (hts _ z_mathini) (hts _ z_min_code) (by omega) (by rw [z_cats_eq]; omega) hce hsl hd h9
    · cases hs
  · cases hs
set_option maxHeartbeats 1000000 in
theorem z_s30 {a ix kw : Nat} {b : Int} (hC : z_Cx l mi p R s m args c) (hF : z_Fx dC dI cI cZ cJ q A L X s s.heap) (hA : z_Ap q A) (hok : z_okb mi pc (30, a, b, ix, kw) = true) (hs : z_ex L pc lv st S 30 a b = some (.inl c2)) (hsl : slots ≤ R.slots) (hce : cells ≤ R.cells)
    (kk : ∀ H locs ls, z_Rl dC dI cI cZ cJ q A X s mi c2 H locs ls → W p l e R s m args below meth c H locs cells slots Q (F0 m (z_pc mi c2.1) ls (c2.2.2.1.map (z_cv q)))) :
    ∀ H locs ls, z_Rl dC dI cI cZ cJ q A X s mi (pc, lv, st, S) H locs ls → W p l e R s m args below meth c H locs cells slots Q (F0 m (z_pc mi pc) ls (st.map (z_cv q))) := by
  intro H locs ls hR
  obtain ⟨hP, hX, hS, hl, hlen⟩ := hR
  dsimp only at hP hX hS hl hlen
  obtain ⟨hx, hb, hml, hown, hts, hfr, hlo, htr⟩ := hC
  simp only [z_okb, z_d, Bool.and_eq_true, Bool.or_eq_true, decide_eq_true_eq] at hok
  simp only [z_ex] at hs
  split at hs
  · next x r =>
    cases hs
    obtain ⟨hd, hn⟩ := hok
    have h9 := kk H locs ls ⟨hP, hX, hS, hl, hlen⟩
    dsimp only at h9
    rw [hn] at h9
    exact lv_i2l hx hb hd rfl h9
  · cases hs
set_option maxHeartbeats 1000000 in
theorem z_s38 {a ix kw : Nat} {b : Int} (hC : z_Cx l mi p R s m args c) (hF : z_Fx dC dI cI cZ cJ q A L X s s.heap) (hA : z_Ap q A) (hok : z_okb mi pc (38, a, b, ix, kw) = true) (hs : z_ex L pc lv st S 38 a b = some (.inl c2)) (hsl : slots ≤ R.slots) (hce : cells ≤ R.cells)
    (kk : ∀ H locs ls, z_Rl dC dI cI cZ cJ q A X s mi c2 H locs ls → W p l e R s m args below meth c H locs cells slots Q (F0 m (z_pc mi c2.1) ls (c2.2.2.1.map (z_cv q)))) :
    ∀ H locs ls, z_Rl dC dI cI cZ cJ q A X s mi (pc, lv, st, S) H locs ls → W p l e R s m args below meth c H locs cells slots Q (F0 m (z_pc mi pc) ls (st.map (z_cv q))) := by
  intro H locs ls hR
  obtain ⟨hP, hX, hS, hl, hlen⟩ := hR
  dsimp only at hP hX hS hl hlen
  obtain ⟨hx, hb, hml, hown, hts, hfr, hlo, htr⟩ := hC
  simp only [z_okb, z_d, Bool.and_eq_true, Bool.or_eq_true, decide_eq_true_eq] at hok
  simp only [z_ex] at hs
  split at hs
  · next y x r =>
    cases hs
    obtain ⟨hd, hn⟩ := hok
    have h9 := kk H locs ls ⟨hP, hX, hS, hl, hlen⟩
    dsimp only at h9
    rw [hn] at h9
    exact W.lcmp hx hb hd h9
  · cases hs
set_option maxHeartbeats 1000000 in
theorem z_s39 {a ix kw : Nat} {b : Int} (hC : z_Cx l mi p R s m args c) (hF : z_Fx dC dI cI cZ cJ q A L X s s.heap) (hA : z_Ap q A) (hok : z_okb mi pc (39, a, b, ix, kw) = true) (hs : z_ex L pc lv st S 39 a b = some (.inl c2)) (hsl : slots ≤ R.slots) (hce : cells ≤ R.cells)
    (kk : ∀ H locs ls, z_Rl dC dI cI cZ cJ q A X s mi c2 H locs ls → W p l e R s m args below meth c H locs cells slots Q (F0 m (z_pc mi c2.1) ls (c2.2.2.1.map (z_cv q)))) :
    ∀ H locs ls, z_Rl dC dI cI cZ cJ q A X s mi (pc, lv, st, S) H locs ls → W p l e R s m args below meth c H locs cells slots Q (F0 m (z_pc mi pc) ls (st.map (z_cv q))) := by
  intro H locs ls hR
  obtain ⟨hP, hX, hS, hl, hlen⟩ := hR
  dsimp only at hP hX hS hl hlen
  obtain ⟨hx, hb, hml, hown, hts, hfr, hlo, htr⟩ := hC
  simp only [z_okb, z_d, Bool.and_eq_true, Bool.or_eq_true, decide_eq_true_eq] at hok
  simp only [z_ex] at hs
  cases hs
  have h9 := kk H locs ls ⟨hP, hX, hS, hl, hlen⟩
  dsimp only at h9
  rcases hok with ⟨⟨hd, hn⟩, rfl⟩ | ⟨⟨hd, hn⟩, rfl⟩
  · rw [hn] at h9
    exact lv_lconst hx hb hd rfl h9
  · rw [hn] at h9
    exact lv_lconst hx hb hd rfl h9
end ZSND
end
section
/-! calls of the small machine: contracts, and what is behind a call -/
theorem z_goodIn {ws : List Cond} (h : ∀ w ∈ ws, w ∈ z_T) : GoodIn z_T ws := fun w hw => ⟨h w hw, good_of_word (List.mem_filter.mp (h w hw)).2⟩
def z_cw (k : Nat) : Cond := if (z_tb k).isEmpty then .code (z_y k) (z_b k) (z_ml k) (z_rt k) else .codeWith (z_y k) (z_b k) (z_ml k) (z_rt k) (z_tb k)
def z_ws (k : Nat) : List Cond := z_cw k :: z_T
def z_rm (k e : Nat) : Room := { frames := z_fr k, cells := e, slots := 6 * e, locals := z_lo k }
section ZCL
variable {l : Launch} {dC : Nat → ClassId} {dI : Nat → Nat → Nat} {cI cZ cJ : ClassId} {q : Nat → Nat} {A : Nat → Prop} {L : Nat} {X : Nat → Int32}
def z_Pc (dC : Nat → ClassId) (dI : Nat → Nat → Nat) (cI cZ cJ : ClassId) (q : Nat → Nat) (A : Nat → Prop) (L : Nat) (X : Nat → Int32) (as : List zV) (S : zS) : Array Value → State → Prop := va_Pc (as.map (z_cv q)) (fun U => z_Fx dC dI cI cZ cJ q A L X U U.heap ∧ va_P (dC, dI) vwCl (z_W cI cZ cJ q S) U.heap ∧ S 1000 = X)
def z_Qc (dC : Nat → ClassId) (dI : Nat → Nat → Nat) (cI cZ cJ : ClassId) (q : Nat → Nat) (A : Nat → Prop) (X : Nat → Int32) (r : Option zV) (S : zS) : Array Value → State → Outcome → State → Prop := fun _ st o t => (o = .returned (r.map (z_cv q)) ∧ va_P (dC, dI) vwCl (z_W cI cZ cJ q S) t.heap ∧ S 1000 = X) ∧ va_F A st t
def z_Xc (dC : Nat → ClassId) (dI : Nat → Nat → Nat) (cI cZ cJ : ClassId) (q : Nat → Nat) (A : Nat → Prop) (X : Nat → Int32) (E : Nat) (S : zS) : String → State → State → Prop := fun E9 st t => (E9 = z_exn E ∧ va_P (dC, dI) vwCl (z_W cI cZ cJ q S) t.heap ∧ S 1000 = X) ∧ va_F A st t
theorem z_blind (as : List zV) (S : zS) : FrameBlind (z_Pc dC dI cI cZ cJ q A L X as S) := by
  intro a U g mk h
  obtain ⟨h1, ⟨f1, f2, f3, f4, f5, f6, f7, f8, f9⟩, h3, h4⟩ := h
  have hv : U.vm.Alike (U.calling g mk a).vm := Vm.Alike.refl U.vm
  exact ⟨h1, ⟨va_K.moved hv f1, va_Nw.same rfl (rfl : U.vm = (U.calling g mk a).vm) f2, f3.moved hv, f4.moved hv, f5.moved hv, f6, fun E E' x y => (f7 E E' x y).moved hv, fun y hy => va_Nw.same rfl (rfl : U.vm = (U.calling g mk a).vm) (f8 y hy), fun E hE => va_Nw.same rfl (rfl : U.vm = (U.calling g mk a).vm) (f9 E hE)⟩, h3, h4⟩
variable {p : Program} {e : Env} {R : Room} {s : State} {m : MethodId} {args : Array Value} {below : List Frame} {meth : Method} {c : Code} {Q : State → Prop} {mi : Nat} {cells slots : Nat} {H : Heap} {locs : List Loc}
variable {pc : Nat} {ls : Array Slot} {st0 rest : List Value}
/-- behind a call that returned -/
theorem z_back {mc ms : Nat} {r : Option zV} {S : zS} {a : Array Value} (hr : va_Run p l e R s m args below meth c H locs cells slots mc ms (F0 m pc ls st0) rest (z_Qc dC dI cI cZ cJ q A X r S a) A) (hS : va_S A s.heap H locs)
    (kk : ∀ (H1 : Heap) (locs1 : List Loc), va_P (dC, dI) vwCl (z_W cI cZ cJ q S) H1 → S 1000 = X → va_S A s.heap H1 locs1 → W p l e R s m args below meth c H1 locs1 (cells + mc) (slots + ms) Q (F0 m (pc + 3) ls ((r.map (z_cv q)).toList ++ rest))) : W p l e R s m args below meth c H locs cells slots Q (F0 m pc ls st0) := by
  intro T hT X9
  obtain ⟨v, st₀, t, T', L9, h0, X', hL, e1, e2, ⟨⟨hv, hp, hb⟩, hz, hk⟩, st⟩ := hr T hT X9
  cases hv
  rw [h0] at hz hk
  obtain ⟨t2, a1, b1⟩ := kk T'.heap (locs ++ L9) (by rw [e1]; exact hp) hb
    ⟨Nat.le_trans hS.1 (by rw [e1]; exact hz), fun q h1 h2 => by rw [e1, hk q (Nat.lt_of_lt_of_le h1 hS.1) h2]; exact hS.2.1 q h1 h2, fun q hq => by
      rcases List.mem_append.mp hq with h | h
      · exact hS.2.2 q h
      · exact hL q h⟩ T' rfl X'
  exact ⟨t2, st t2 a1, b1⟩
/-- behind a call that threw -/
theorem z_backX {mc ms E : Nat} {S : zS} {a : Array Value} (hr : vx_Run p l e R s m args below meth c H locs cells slots mc ms (F0 m pc ls st0) rest ((fun _ _ _ _ => False : Array Value → State → Outcome → State → Prop) a) (z_Xc dC dI cI cZ cJ q A X E S) A) (hS : va_S A s.heap H locs)
    (kk : ∀ (H1 : Heap) (locs1 : List Loc) (q9 : Addr) (ce : Cell), va_P (dC, dI) vwCl (z_W cI cZ cJ q S) H1 → S 1000 = X → va_S A s.heap H1 locs1 → H1[q9]? = some ce → ce.vm = .none → s.vm.findClass (z_exn E) = some ce.cls → vx_W p l e R s m args below meth c H1 locs1 (cells + mc) (slots + ms) Q (F0 m pc ls rest) q9) : W p l e R s m args below meth c H locs cells slots Q (F0 m pc ls st0) := by
  intro T hT X9
  rcases hr T hT X9 with ⟨v, st₀, t, T', L9, h0, X', hL, e1, e2, hf, st⟩ | ⟨q9, st₀, t, T', L9, E9, ce, h0, X', hL, e1, e2, ⟨⟨rfl, hp, hb⟩, hF⟩, hce, hcv, hcl, st⟩
  · exact hf.elim
  · obtain ⟨k1, k2, k3⟩ := vx_keep h0 e1 hS (fun _ _ h => h) (fun _ h => h) hL hF
    obtain ⟨t2, a1, b1⟩ := kk T'.heap (locs ++ L9) q9 ce (by rw [e1]; exact hp) hb k3 (by rw [e1]; exact hce) hcv hcl T' rfl X'
    exact ⟨t2, st.trans a1, b1⟩
theorem z_sl {vs : List zV} (h : vs.all (fun v => z_cat v == 1) = true) : (lg_sl (vs.map (z_cv q))).length = vs.length := by
  induction vs with
  | nil => rfl
  | cons v vs ih =>
    simp only [List.all_cons, Bool.and_eq_true, beq_iff_eq] at h
    have h1 : ¬ (z_cv q v).category = 2 := by rw [z_cv_cat, h.1]; decide
    have := ih h.2
    simp only [lg_sl, List.map_cons, List.flatMap_cons, if_neg h1, List.length_append, List.length_cons, List.length_nil] at this ⊢
    omega
theorem z_args {vs : List zV} (h : vs.all (fun v => z_cat v == 1) = true) : ∀ (n i : Nat) (v : zV), vs[i]? = some v → (n + i, z_cv q v) ∈ lv_args n (vs.map (z_cv q)) := by
  induction vs with
  | nil => intro n i v hv; simp at hv
  | cons u vs ih =>
    simp only [List.all_cons, Bool.and_eq_true, beq_iff_eq] at h
    have h1 : ¬ (z_cv q u).category = 2 := by rw [z_cv_cat, h.1]; decide
    intro n i v hv
    rw [List.map_cons, lv_args, if_neg h1]
    cases i with
    | zero => cases hv; exact List.mem_cons_self
    | succ i =>
      refine List.mem_cons_of_mem _ ?_
      have := ih h.2 (n + 1) i v hv
      rwa [Nat.add_assoc, Nat.add_comm 1 i] at this
theorem z_entry {vs : List zV} (h : vs.all (fun v => z_cat v == 1) = true) {k : Nat} (hn : vs.length ≤ z_ml k) : lv_has ((lg_sl (vs.map (z_cv q)) ++ List.replicate (z_ml k - (lg_sl (vs.map (z_cv q))).length) Slot.unset).toArray) (z_ml k) (z_al q (z_ent k vs)) := by
  have h0 := lv_entry (vs.map (z_cv q)) (n := z_ml k) (by rw [z_sl h]; exact hn)
  refine ⟨h0.1, h0.2.1, fun x hx => h0.2.2 x ?_⟩
  obtain ⟨v, h1, h2, h3⟩ := z_al_of hx
  unfold z_ent at h1
  by_cases hl : x.1 < (vs.map some).length
  · rw [List.getElem?_append_left hl, List.getElem?_map] at h1
    rcases hv : vs[x.1]? with _ | u
    · rw [hv] at h1; cases h1
    · rw [hv] at h1
      cases h1
      have := z_args (q := q) h 0 x.1 v hv
      rw [Nat.zero_add, ← h3] at this
      exact this
  · rw [List.getElem?_append_right (by omega), List.getElem?_replicate] at h1
    split at h1 <;> cases h1
theorem z_ent_len {vs : List zV} {k : Nat} (hn : vs.length ≤ z_ml k) : (z_ent k vs).length = z_ml k := by simp [z_ent]; omega
end ZCL
end
section
/-! the kinds of calls -/
theorem z_mok_un {a : Nat} (h : z_mok a = true) : z_cw a ∈ z_T ∧ (z_st a = 1 → Cond.static (z_y a) ∈ z_T) ∧ (z_st a ≠ 1 → Cond.instanceMethod (z_y a) ∈ z_T ∧ Cond.selects (z_cls a) (z_y a) (z_y a) ∈ z_T) ∧ Cond.initialized (z_cls a) ∈ z_T ∧ plainFor (z_y a) = true ∧ (z_cls a ≠ "java/lang/invoke/MethodHandle" ∧ z_cls a ≠ "java/lang/invoke/VarHandle") ∧ (parseMethodDescriptor (z_y a).desc).map (fun d => d.parameters.length) = some (z_na a) ∧ (z_th a).isEmpty = (z_tb a).isEmpty ∧ z_na a + (1 - z_st a) ≤ z_ml a := by
  simp only [z_mok, Bool.and_eq_true, decide_eq_true_eq] at h
  obtain ⟨⟨⟨⟨⟨⟨⟨h1, h2⟩, h3⟩, h4⟩, h5⟩, h6⟩, h7⟩, h8⟩ := h
  refine ⟨?_, fun hs => ?_, fun hs => ?_, z_w_in h3, h4, h5, h6, h7, h8⟩
  · unfold z_cw
    split at h1
    · next hb => rw [if_pos hb]; exact z_w_in h1
    · next hb => rw [if_neg hb]; exact z_w_in h1
  · rw [if_pos hs] at h2; exact z_w_in h2
  · rw [if_neg hs, Bool.and_eq_true] at h2; exact ⟨z_w_in h2.1, z_w_in h2.2⟩
theorem z_ws_in {a : Nat} (h : z_cw a ∈ z_T) : ∀ w ∈ z_ws a, w ∈ z_T := fun w hw => (List.mem_cons.mp hw).elim (fun e => by rw [e]; exact h) id
theorem z_ws_code {a : Nat} (hb : (z_tb a).isEmpty = true) : z_ws a = Cond.code (z_y a) (z_b a) (z_ml a) (z_rt a) :: z_T := by unfold z_ws z_cw; rw [if_pos hb]
theorem z_ws_with {a : Nat} (hb : ¬ (z_tb a).isEmpty = true) : z_ws a = Cond.codeWith (z_y a) (z_b a) (z_ml a) (z_rt a) (z_tb a) :: z_T := by unfold z_ws z_cw; rw [if_neg hb]
section ZCR
variable {l : Launch} {dC : Nat → ClassId} {dI : Nat → Nat → Nat} {cI cZ cJ : ClassId} {q : Nat → Nat} {A : Nat → Prop} {L : Nat} {X : Nat → Int32}
variable {p : Program} {e : Env} {R : Room} {s : State} {m : MethodId} {args : Array Value} {below : List Frame} {meth : Method} {c : Code} {Q : State → Prop} {mi : Nat} {cells slots : Nat} {H : Heap} {locs : List Loc}
variable {pc : Nat} {ls : Array Slot} {lw : List (Nat × Value)}
theorem z_cal_un {a : Nat} (h : z_cal mi a = true) (hC : z_Cx l mi p R s m args c) (n : Nat) : (z_rm a n).frames + 1 ≤ R.frames ∧ 8 + (z_ml a + 11) + (z_rm a n).locals ≤ R.locals := by
  simp only [z_cal, Bool.and_eq_true, decide_eq_true_eq] at h
  obtain ⟨-, -, -, -, -, h1, h2, -⟩ := hC
  exact ⟨Nat.le_trans h.1.2 h1, Nat.le_trans h.2 h2⟩

theorem z_cV {a ix n : Nat} {as rest : List zV} {S S2 : zS} {r : Option zV} (hC : z_Cx l mi p R s m args c) (hF : z_Fx dC dI cI cZ cJ q A L X s s.heap) (hA : z_Ap q A) (hd : decode (z_b mi) pc = .ok (.invokevirtual ix, 3)) (hw : Cond.methodLink (z_cls mi) ix (z_y a) ∈ z_T) {ci k : Nat} {fk : List (Option Nat)} (hlay : z_lay[k]? = some (.inr (ci, fk))) (hcl : (vwCl[ci]?).map (·.1) = some (z_cls a)) (hcal : z_cal mi a = true) (hmok : z_mok a = true) (htb : (z_tb a).isEmpty = true) (hst : z_st a = 0) (hna : as.length = z_na a) (hcat : z_cats rest ≤ 8)
    (hM : Met l (z_y a) (z_ws a) (z_rm a n) (z_Pc dC dI cI cZ cJ q A L X (.inr (.inr k) :: as) S) (z_Qc dC dI cI cZ cJ q A X r S2) n (6 * n) A) (hP : va_P (dC, dI) vwCl (z_W cI cZ cJ q S) H) (hX : S 1000 = X) (hS : va_S A s.heap H locs) (hl : lv_has ls (z_ml mi) lw) (hce : cells + n ≤ R.cells) (hsl : slots + 6 * n ≤ R.slots) :
    va_Run p l e R s m args below meth c H locs cells slots n (6 * n) (F0 m pc ls ((as.map (z_cv q)).reverse ++ .ref (q k) :: rest.map (z_cv q))) (rest.map (z_cv q)) (z_Qc dC dI cI cZ cJ q A X r S2 (Value.ref (q k) :: as.map (z_cv q)).toArray) A := by
  have hroom := z_cal_un hcal hC n
  obtain ⟨hx, hb, hml, hown, hts, hfr, hlo, htr⟩ := hC
  obtain ⟨m1, m2, m3, m4, m5, m6, m7, m8, m9⟩ := z_mok_un hmok
  obtain ⟨mi1, mi2⟩ := m3 (by omega)
  have hG : GoodIn z_T (wsV (z_cls mi) ix (z_cls a) (z_y a) (z_ws a)) := z_goodIn (fun w h => by
    simp only [wsV, List.mem_append, List.mem_cons, List.not_mem_nil, or_false] at h
    rcases h with (rfl | rfl | rfl | rfl) | h
    · exact hw
    · exact mi1
    · exact mi2
    · exact m4
    · exact z_ws_in m1 w h)
  obtain ⟨r9, hr9, hc9⟩ : ∃ r9, vwCl[ci]? = some r9 ∧ r9.1 = z_cls a := by
    rcases hv : vwCl[ci]? with _ | r9
    · rw [hv] at hcl; cases hcl
    · rw [hv] at hcl; exact ⟨r9, rfl, Option.some.inj hcl⟩
  have hrecv := va_recv hF.1 hP hr9 (z_W_at S hlay)
  rw [hc9] at hrecv
  exact va_runV (As := as.map (z_cv q)) (rest := rest.map (z_cv q)) ⟨hx, hb, hml, hown, hts⟩ hM (cwV (z_na a) hts hG (z_ws_code htb) rfl rfl ⟨rfl, m6.1, m6.2, m7⟩ hroom) ⟨z_blind _ _, hrecv, fun U hU hW => ⟨rfl, by rw [hU]; exact hF.go hA.2.2 hS hW, by rw [hU]; exact hP, hX⟩⟩ rfl (by rw [List.length_map]; exact hna) hl.1 rfl (lv_room (by rw [z_cats_eq]; exact hcat)) hd ⟨hce, hsl⟩
theorem z_cVX {a ix n : Nat} {as rest : List zV} {S S2 : zS} {E : Nat} (hC : z_Cx l mi p R s m args c) (hF : z_Fx dC dI cI cZ cJ q A L X s s.heap) (hA : z_Ap q A) (hd : decode (z_b mi) pc = .ok (.invokevirtual ix, 3)) (hw : Cond.methodLink (z_cls mi) ix (z_y a) ∈ z_T) {ci k : Nat} {fk : List (Option Nat)} (hlay : z_lay[k]? = some (.inr (ci, fk))) (hcl : (vwCl[ci]?).map (·.1) = some (z_cls a)) (hcal : z_cal mi a = true) (hmok : z_mok a = true) (htb : (z_tb a).isEmpty = true) (hst : z_st a = 0) (hna : as.length = z_na a) (hcat : z_cats rest ≤ 8)
    (hM : vx_Met l (z_y a) (z_ws a) (z_rm a n) (z_Pc dC dI cI cZ cJ q A L X (.inr (.inr k) :: as) S) (fun _ _ _ _ => False) (z_Xc dC dI cI cZ cJ q A X E S2) n (6 * n) A) (hP : va_P (dC, dI) vwCl (z_W cI cZ cJ q S) H) (hX : S 1000 = X) (hS : va_S A s.heap H locs) (hl : lv_has ls (z_ml mi) lw) (hce : cells + n ≤ R.cells) (hsl : slots + 6 * n ≤ R.slots) :
    vx_Run p l e R s m args below meth c H locs cells slots n (6 * n) (F0 m pc ls ((as.map (z_cv q)).reverse ++ .ref (q k) :: rest.map (z_cv q))) (rest.map (z_cv q)) ((fun _ _ _ _ => False : Array Value → State → Outcome → State → Prop) (Value.ref (q k) :: as.map (z_cv q)).toArray) (z_Xc dC dI cI cZ cJ q A X E S2) A := by
  have hroom := z_cal_un hcal hC n
  obtain ⟨hx, hb, hml, hown, hts, hfr, hlo, htr⟩ := hC
  obtain ⟨m1, m2, m3, m4, m5, m6, m7, m8, m9⟩ := z_mok_un hmok
  obtain ⟨mi1, mi2⟩ := m3 (by omega)
  have hG : GoodIn z_T (wsV (z_cls mi) ix (z_cls a) (z_y a) (z_ws a)) := z_goodIn (fun w h => by
    simp only [wsV, List.mem_append, List.mem_cons, List.not_mem_nil, or_false] at h
    rcases h with (rfl | rfl | rfl | rfl) | h
    · exact hw
    · exact mi1
    · exact mi2
    · exact m4
    · exact z_ws_in m1 w h)
  obtain ⟨r9, hr9, hc9⟩ : ∃ r9, vwCl[ci]? = some r9 ∧ r9.1 = z_cls a := by
    rcases hv : vwCl[ci]? with _ | r9
    · rw [hv] at hcl; cases hcl
    · rw [hv] at hcl; exact ⟨r9, rfl, Option.some.inj hcl⟩
  have hrecv := va_recv hF.1 hP hr9 (z_W_at S hlay)
  rw [hc9] at hrecv
  exact vx_runV (As := as.map (z_cv q)) (rest := rest.map (z_cv q)) ⟨hx, hb, hml, hown, hts⟩ hM (cwV (z_na a) hts hG (z_ws_code htb) rfl rfl ⟨rfl, m6.1, m6.2, m7⟩ hroom) ⟨z_blind _ _, hrecv, fun U hU hW => ⟨rfl, by rw [hU]; exact hF.go hA.2.2 hS hW, by rw [hU]; exact hP, hX⟩⟩ rfl (by rw [List.length_map]; exact hna) hl.1 rfl (lv_room (by rw [z_cats_eq]; exact hcat)) hd ⟨hce, hsl⟩
theorem z_cS {a ix n : Nat} {as rest : List zV} {S S2 : zS} {r : Option zV} (hC : z_Cx l mi p R s m args c) (hF : z_Fx dC dI cI cZ cJ q A L X s s.heap) (hA : z_Ap q A) (hd : decode (z_b mi) pc = .ok (.invokestatic ix, 3)) (hw : Cond.methodLink (z_cls mi) ix (z_y a) ∈ z_T) (hcal : z_cal mi a = true) (hmok : z_mok a = true) (htb : (z_tb a).isEmpty = true) (hst : z_st a = 1) (hna : as.length = z_na a) (hcat : z_cats rest ≤ 8)
    (hM : Met l (z_y a) (z_ws a) (z_rm a n) (z_Pc dC dI cI cZ cJ q A L X as S) (z_Qc dC dI cI cZ cJ q A X r S2) n (6 * n) A) (hP : va_P (dC, dI) vwCl (z_W cI cZ cJ q S) H) (hX : S 1000 = X) (hS : va_S A s.heap H locs) (hl : lv_has ls (z_ml mi) lw) (hce : cells + n ≤ R.cells) (hsl : slots + 6 * n ≤ R.slots) :
    va_Run p l e R s m args below meth c H locs cells slots n (6 * n) (F0 m pc ls ((as.map (z_cv q)).reverse ++ rest.map (z_cv q))) (rest.map (z_cv q)) (z_Qc dC dI cI cZ cJ q A X r S2 (as.map (z_cv q)).toArray) A := by
  have hroom := z_cal_un hcal hC n
  obtain ⟨hx, hb, hml, hown, hts, hfr, hlo, htr⟩ := hC
  obtain ⟨m1, m2, m3, m4, m5, m6, m7, m8, m9⟩ := z_mok_un hmok
  have hG : GoodIn z_T (va_wsS (z_cls mi) ix (z_y a) (z_ws a)) := z_goodIn (fun w h => by
    simp only [va_wsS, List.mem_append, List.mem_cons, List.not_mem_nil, or_false] at h
    rcases h with (rfl | rfl | rfl) | h
    · exact hw
    · exact m2 hst
    · exact m4
    · exact z_ws_in m1 w h)
  exact va_runS (As := as.map (z_cv q)) (rest := rest.map (z_cv q)) ⟨hx, hb, hml, hown, hts⟩ hM (va_cwS (z_na a) hts hG (z_ws_code htb) rfl rfl ⟨m6.1, m6.2, m7⟩ hroom) ⟨z_blind _ _, fun U hU hW => ⟨rfl, by rw [hU]; exact hF.go hA.2.2 hS hW, by rw [hU]; exact hP, hX⟩⟩ rfl (by rw [List.length_map]; exact hna) hl.1 rfl (lv_room (by rw [z_cats_eq]; exact hcat)) hd ⟨hce, hsl⟩
theorem z_cSX {a ix n : Nat} {as rest : List zV} {S S2 : zS} {E : Nat} (hC : z_Cx l mi p R s m args c) (hF : z_Fx dC dI cI cZ cJ q A L X s s.heap) (hA : z_Ap q A) (hd : decode (z_b mi) pc = .ok (.invokestatic ix, 3)) (hw : Cond.methodLink (z_cls mi) ix (z_y a) ∈ z_T) (hcal : z_cal mi a = true) (hmok : z_mok a = true) (htb : (z_tb a).isEmpty = true) (hst : z_st a = 1) (hna : as.length = z_na a) (hcat : z_cats rest ≤ 8)
    (hM : vx_Met l (z_y a) (z_ws a) (z_rm a n) (z_Pc dC dI cI cZ cJ q A L X as S) (fun _ _ _ _ => False) (z_Xc dC dI cI cZ cJ q A X E S2) n (6 * n) A) (hP : va_P (dC, dI) vwCl (z_W cI cZ cJ q S) H) (hX : S 1000 = X) (hS : va_S A s.heap H locs) (hl : lv_has ls (z_ml mi) lw) (hce : cells + n ≤ R.cells) (hsl : slots + 6 * n ≤ R.slots) :
    vx_Run p l e R s m args below meth c H locs cells slots n (6 * n) (F0 m pc ls ((as.map (z_cv q)).reverse ++ rest.map (z_cv q))) (rest.map (z_cv q)) ((fun _ _ _ _ => False : Array Value → State → Outcome → State → Prop) (as.map (z_cv q)).toArray) (z_Xc dC dI cI cZ cJ q A X E S2) A := by
  have hroom := z_cal_un hcal hC n
  obtain ⟨hx, hb, hml, hown, hts, hfr, hlo, htr⟩ := hC
  obtain ⟨m1, m2, m3, m4, m5, m6, m7, m8, m9⟩ := z_mok_un hmok
  have hG : GoodIn z_T (va_wsS (z_cls mi) ix (z_y a) (z_ws a)) := z_goodIn (fun w h => by
    simp only [va_wsS, List.mem_append, List.mem_cons, List.not_mem_nil, or_false] at h
    rcases h with (rfl | rfl | rfl) | h
    · exact hw
    · exact m2 hst
    · exact m4
    · exact z_ws_in m1 w h)
  exact vx_runS (As := as.map (z_cv q)) (rest := rest.map (z_cv q)) ⟨hx, hb, hml, hown, hts⟩ hM (va_cwS (z_na a) hts hG (z_ws_code htb) rfl rfl ⟨m6.1, m6.2, m7⟩ hroom) ⟨z_blind _ _, fun U hU hW => ⟨rfl, by rw [hU]; exact hF.go hA.2.2 hS hW, by rw [hU]; exact hP, hX⟩⟩ rfl (by rw [List.length_map]; exact hna) hl.1 rfl (lv_room (by rw [z_cats_eq]; exact hcat)) hd ⟨hce, hsl⟩
theorem z_cT {a ix n : Nat} {as rest : List zV} {S S2 : zS} {r : Option zV} (hC : z_Cx l mi p R s m args c) (hF : z_Fx dC dI cI cZ cJ q A L X s s.heap) (hA : z_Ap q A) (hd : decode (z_b mi) pc = .ok (.invokestatic ix, 3)) (hw : Cond.methodLink (z_cls mi) ix (z_y a) ∈ z_T) (hcal : z_cal mi a = true) (hmok : z_mok a = true) (htb : ¬ (z_tb a).isEmpty = true) (hst : z_st a = 1) (hna : as.length = z_na a) (hcat : z_cats rest ≤ 8)
    (hM : Met l (z_y a) (z_ws a) (z_rm a n) (z_Pc dC dI cI cZ cJ q A L X as S) (z_Qc dC dI cI cZ cJ q A X r S2) n (6 * n) A) (hP : va_P (dC, dI) vwCl (z_W cI cZ cJ q S) H) (hX : S 1000 = X) (hS : va_S A s.heap H locs) (hl : lv_has ls (z_ml mi) lw) (hce : cells + n ≤ R.cells) (hsl : slots + 6 * n ≤ R.slots) :
    va_Run p l e R s m args below meth c H locs cells slots n (6 * n) (F0 m pc ls ((as.map (z_cv q)).reverse ++ rest.map (z_cv q))) (rest.map (z_cv q)) (z_Qc dC dI cI cZ cJ q A X r S2 (as.map (z_cv q)).toArray) A := by
  have hroom := z_cal_un hcal hC n
  obtain ⟨hx, hb, hml, hown, hts, hfr, hlo, htr⟩ := hC
  obtain ⟨m1, m2, m3, m4, m5, m6, m7, m8, m9⟩ := z_mok_un hmok
  have hG : GoodIn z_T (va_wsS (z_cls mi) ix (z_y a) (z_ws a)) := z_goodIn (fun w h => by
    simp only [va_wsS, List.mem_append, List.mem_cons, List.not_mem_nil, or_false] at h
    rcases h with (rfl | rfl | rfl) | h
    · exact hw
    · exact m2 hst
    · exact m4
    · exact z_ws_in m1 w h)
  exact vx_runSW (As := as.map (z_cv q)) (rest := rest.map (z_cv q)) ⟨hx, hb, hml, hown, hts⟩ hM (vx_cwSW (z_na a) hts hG (z_ws_with htb) rfl rfl ⟨m6.1, m6.2, m7⟩ hroom) ⟨z_blind _ _, fun U hU hW => ⟨rfl, by rw [hU]; exact hF.go hA.2.2 hS hW, by rw [hU]; exact hP, hX⟩⟩ rfl (by rw [List.length_map]; exact hna) hl.1 rfl (lv_room (by rw [z_cats_eq]; exact hcat)) hd ⟨hce, hsl⟩
theorem z_cTX {a ix n : Nat} {as rest : List zV} {S S2 : zS} {E : Nat} (hC : z_Cx l mi p R s m args c) (hF : z_Fx dC dI cI cZ cJ q A L X s s.heap) (hA : z_Ap q A) (hd : decode (z_b mi) pc = .ok (.invokestatic ix, 3)) (hw : Cond.methodLink (z_cls mi) ix (z_y a) ∈ z_T) (hcal : z_cal mi a = true) (hmok : z_mok a = true) (htb : ¬ (z_tb a).isEmpty = true) (hst : z_st a = 1) (hna : as.length = z_na a) (hcat : z_cats rest ≤ 8)
    (hM : vx_Met l (z_y a) (z_ws a) (z_rm a n) (z_Pc dC dI cI cZ cJ q A L X as S) (fun _ _ _ _ => False) (z_Xc dC dI cI cZ cJ q A X E S2) n (6 * n) A) (hP : va_P (dC, dI) vwCl (z_W cI cZ cJ q S) H) (hX : S 1000 = X) (hS : va_S A s.heap H locs) (hl : lv_has ls (z_ml mi) lw) (hce : cells + n ≤ R.cells) (hsl : slots + 6 * n ≤ R.slots) :
    vx_Run p l e R s m args below meth c H locs cells slots n (6 * n) (F0 m pc ls ((as.map (z_cv q)).reverse ++ rest.map (z_cv q))) (rest.map (z_cv q)) ((fun _ _ _ _ => False : Array Value → State → Outcome → State → Prop) (as.map (z_cv q)).toArray) (z_Xc dC dI cI cZ cJ q A X E S2) A := by
  have hroom := z_cal_un hcal hC n
  obtain ⟨hx, hb, hml, hown, hts, hfr, hlo, htr⟩ := hC
  obtain ⟨m1, m2, m3, m4, m5, m6, m7, m8, m9⟩ := z_mok_un hmok
  have hG : GoodIn z_T (va_wsS (z_cls mi) ix (z_y a) (z_ws a)) := z_goodIn (fun w h => by
    simp only [va_wsS, List.mem_append, List.mem_cons, List.not_mem_nil, or_false] at h
    rcases h with (rfl | rfl | rfl) | h
    · exact hw
    · exact m2 hst
    · exact m4
    · exact z_ws_in m1 w h)
  exact vx_runSX (As := as.map (z_cv q)) (rest := rest.map (z_cv q)) ⟨hx, hb, hml, hown, hts⟩ hM (vx_cwSW (z_na a) hts hG (z_ws_with htb) rfl rfl ⟨m6.1, m6.2, m7⟩ hroom) ⟨z_blind _ _, fun U hU hW => ⟨rfl, by rw [hU]; exact hF.go hA.2.2 hS hW, by rw [hU]; exact hP, hX⟩⟩ rfl (by rw [List.length_map]; exact hna) hl.1 rfl (lv_room (by rw [z_cats_eq]; exact hcat)) hd ⟨hce, hsl⟩
theorem z_cN {a ix n : Nat} {as rest : List zV} {S S2 : zS} {r : Option zV} (hC : z_Cx l mi p R s m args c) (hF : z_Fx dC dI cI cZ cJ q A L X s s.heap) (hA : z_Ap q A) (hd : decode (z_b mi) pc = .ok (.invokestatic 66, 3)) (hy : z_y a = yX11_firstOf) (hy2 : z_cls mi = RX6) (hcal : z_cal mi a = true) (hmok : z_mok a = true) (htb : (z_tb a).isEmpty = true) (hst : z_st a = 1) (hna : as.length = z_na a) (hcat : z_cats rest ≤ 8)
    (hM : Met l (z_y a) (z_ws a) (z_rm a n) (z_Pc dC dI cI cZ cJ q A L X as S) (z_Qc dC dI cI cZ cJ q A X r S2) n (6 * n) A) (hP : va_P (dC, dI) vwCl (z_W cI cZ cJ q S) H) (hX : S 1000 = X) (hS : va_S A s.heap H locs) (hl : lv_has ls (z_ml mi) lw) (hce : cells + n ≤ R.cells) (hsl : slots + 6 * n ≤ R.slots) :
    va_Run p l e R s m args below meth c H locs cells slots n (6 * n) (F0 m pc ls ((as.map (z_cv q)).reverse ++ rest.map (z_cv q))) (rest.map (z_cv q)) (z_Qc dC dI cI cZ cJ q A X r S2 (as.map (z_cv q)).toArray) A := by
  have hroom := z_cal_un hcal hC n
  obtain ⟨hx, hb, hml, hown, hts, hfr, hlo, htr⟩ := hC
  obtain ⟨m1, m2, m3, m4, m5, m6, m7, m8, m9⟩ := z_mok_un hmok
  have hlk : va_Nw (.methodLinkNest (z_cls mi) 66 (z_y a) RX11) s := by rw [hy, hy2]; exact hF.2.1
  exact va_runSN (As := as.map (z_cv q)) (rest := rest.map (z_cv q)) ⟨hx, hb, hml, hown, hts⟩ hM ⟨va_cnB (z_na a) hts (z_goodIn (z_ws_in m1)) (z_ws_code htb) rfl rfl hlk (hts _ m4) ⟨m6.1, m6.2, m7⟩ hroom, hts _ (m2 hst), trivial⟩ ⟨z_blind _ _, fun U hU hW => ⟨rfl, by rw [hU]; exact hF.go hA.2.2 hS hW, by rw [hU]; exact hP, hX⟩⟩ rfl (by rw [List.length_map]; exact hna) hl.1 rfl (lv_room (by rw [z_cats_eq]; exact hcat)) hd ⟨hce, hsl⟩
end ZCR
end
section
/-! contracts out of bodies, of a method that nothing else is run for (a class may be one of those whose methods are, as java.lang.Math) -/
theorem z_ofW {l : Launch} {y : MethodName} {ws ws' : List Cond} {rm : Room} {Pc : Array Value → State → Prop} {Qc : Array Value → State → Outcome → State → Prop} {mc ms : Nat} {free : Addr → Prop} {cc : ByteArray} {maxL : Nat} {ret : Option FieldType}
    (hy : plainFor y = true) (hw : ws = Cond.code y cc maxL ret :: ws')
    (body : ∀ p e s m args below meth c s₁, BodyLoose p l y (headSpec ws rm) cc maxL ret e s m args below meth c s₁ → c.maxLocals = maxL → Pc args s →
      W p l e (headSpec ws rm).room s m args below meth c s.heap [] 0 0 (MQ below Qc args s mc ms free) (entryFrame m args maxL)) : Met l y ws rm Pc Qc mc ms free := by
  refine MetFree.of_bodySF (code := cc) (maxLocals := maxL) (ret := ret) hy (fun args s m h hn => ?_) (fun p e s m args below meth c s₁ B hml hP _ => ?_)
  · obtain ⟨meth, c, h1, h2, h3, h4, h5, h6, -, -⟩ := Cond.code_spec hn (atoms_spec (ws := ws) h _ (by rw [hw]; exact List.mem_cons_self))
    exact ⟨meth, c, h1, h2, h3, h4, h5, h6⟩
  · have hh0 : s₁.heap = s.heap := by rw [B.state]; rfl
    obtain ⟨t, a1, o, b1, b2, b3⟩ := body p e s m args below meth c s₁ B hml hP s₁ hh0 (Stand.of_body B)
    exact ⟨t, o, a1, b1, b2, ⟨b3.1, b3.2⟩⟩
theorem z_ofWH {l : Launch} {y : MethodName} {ws ws' : List Cond} {rm : Room} {Pc : Array Value → State → Prop} {Qc : Array Value → State → Outcome → State → Prop} {mc ms : Nat} {free : Addr → Prop} {cc : ByteArray} {maxL : Nat} {ret : Option FieldType} {hh : List (Nat × Nat × Nat × Nat)}
    (hy : plainFor y = true) (hw : ws = Cond.codeWith y cc maxL ret hh :: ws')
    (body : ∀ p e s m args below meth c s₁, BodyLoose p l y (headSpec ws rm) cc maxL ret e s m args below meth c s₁ → c.maxLocals = maxL → Pc args s →
      W p l e (headSpec ws rm).room s m args below meth c s.heap [] 0 0 (MQ below Qc args s mc ms free) (entryFrame m args maxL)) : Met l y ws rm Pc Qc mc ms free := by
  refine MetFree.of_bodySF (code := cc) (maxLocals := maxL) (ret := ret) hy (fun args s m h hn => ?_) (fun p e s m args below meth c s₁ B hml hP _ => ?_)
  · obtain ⟨m9, meth, c, hn9, h1, h2, h3, h4, -, h5, h6, -⟩ := Cond.codeWith_spec (atoms_spec (ws := ws) h _ (by rw [hw]; exact List.mem_cons_self))
    cases hn.symm.trans hn9
    exact ⟨meth, c, h1, h2, h3, h4, h5, h6⟩
  · have hh0 : s₁.heap = s.heap := by rw [B.state]; rfl
    obtain ⟨t, a1, o, b1, b2, b3⟩ := body p e s m args below meth c s₁ B hml hP s₁ hh0 (Stand.of_body B)
    exact ⟨t, o, a1, b1, b2, ⟨b3.1, b3.2⟩⟩
theorem z_xofW {l : Launch} {y : MethodName} {ws ws' : List Cond} {rm : Room} {Pc : Array Value → State → Prop} {Qc : Array Value → State → Outcome → State → Prop} {XC : String → State → State → Prop} {mc ms : Nat} {free : Addr → Prop} {cc : ByteArray} {maxL : Nat} {ret : Option FieldType}
    (hy : plainFor y = true) (hw : ws = Cond.code y cc maxL ret :: ws')
    (body : ∀ p e s m args below meth c s₁, BodyLoose p l y (headSpec ws rm) cc maxL ret e s m args below meth c s₁ → c.maxLocals = maxL → (∀ x ∈ c.exceptionTable.toList, False) → Pc args s →
      W p l e (headSpec ws rm).room s m args below meth c s.heap [] 0 0 (vx_MQ below Qc XC args s mc ms free) (entryFrame m args maxL)) : vx_Met l y ws rm Pc Qc XC mc ms free := by
  refine MetFree.of_bodySF (code := cc) (maxLocals := maxL) (ret := ret) hy (fun args s m h hn => ?_) (fun p e s m args below meth c s₁ B hml hP _ => ?_)
  · obtain ⟨meth, c, h1, h2, h3, h4, h5, h6, -, -⟩ := Cond.code_spec hn (atoms_spec (ws := ws) h _ (by rw [hw]; exact List.mem_cons_self))
    exact ⟨meth, c, h1, h2, h3, h4, h5, h6⟩
  · have hh0 : s₁.heap = s.heap := by rw [B.state]; rfl
    have ht : ∀ x ∈ c.exceptionTable.toList, False := by
      obtain ⟨meth9, c9, h1, h2, -, -, -, -, h7, -⟩ := Cond.code_spec B.named (atoms_spec (ws := ws) B.pre _ (by rw [hw]; exact List.mem_cons_self))
      cases Option.some.inj (h1.symm.trans B.method)
      cases Option.some.inj (h2.symm.trans (Stand.of_body B).code)
      intro x hx
      rw [Array.isEmpty_iff.mp h7] at hx
      cases hx
    obtain ⟨t, a1, o, b1, b2, b3⟩ := body p e s m args below meth c s₁ B hml ht hP s₁ hh0 (Stand.of_body B)
    exact ⟨t, o, a1, b1, b2, b3⟩
theorem z_xofWH {l : Launch} {y : MethodName} {ws ws' : List Cond} {rm : Room} {Pc : Array Value → State → Prop} {Qc : Array Value → State → Outcome → State → Prop} {XC : String → State → State → Prop} {mc ms : Nat} {free : Addr → Prop} {cc : ByteArray} {maxL : Nat} {ret : Option FieldType} {hh : List (Nat × Nat × Nat × Nat)}
    (hy : plainFor y = true) (hw : ws = Cond.codeWith y cc maxL ret hh :: ws')
    (body : ∀ p e s m args below meth c s₁, BodyLoose p l y (headSpec ws rm) cc maxL ret e s m args below meth c s₁ → c.maxLocals = maxL → Pc args s →
      W p l e (headSpec ws rm).room s m args below meth c s.heap [] 0 0 (vx_MQ below Qc XC args s mc ms free) (entryFrame m args maxL)) : vx_Met l y ws rm Pc Qc XC mc ms free := by
  refine MetFree.of_bodySF (code := cc) (maxLocals := maxL) (ret := ret) hy (fun args s m h hn => ?_) (fun p e s m args below meth c s₁ B hml hP _ => ?_)
  · obtain ⟨m9, meth, c, hn9, h1, h2, h3, h4, -, h5, h6, -⟩ := Cond.codeWith_spec (atoms_spec (ws := ws) h _ (by rw [hw]; exact List.mem_cons_self))
    cases hn.symm.trans hn9
    exact ⟨meth, c, h1, h2, h3, h4, h5, h6⟩
  · have hh0 : s₁.heap = s.heap := by rw [B.state]; rfl
    obtain ⟨t, a1, o, b1, b2, b3⟩ := body p e s m args below meth c s₁ B hml hP s₁ hh0 (Stand.of_body B)
    exact ⟨t, o, a1, b1, b2, b3⟩
theorem z_plain_323 : plainFor (z_y 323) = true := by decide +kernel
end
section
/-! the throw of the class's own exceptions -/
theorem z_ta0 : ∀ w ∈ (vx_at0 RX11 387 "java/lang/IndexOutOfBoundsException" ["java/lang/RuntimeException", "java/lang/Exception"]).filter goodWord, w ∈ lw_tbl := by decide +kernel
theorem z_tb0 : ∀ w ∈ (vx_at0 RX11 387 "java/lang/IndexOutOfBoundsException" ["java/lang/RuntimeException", "java/lang/Exception"]).filter (fun w => !goodWord w), w ∈ Cond.castable "java/lang/IndexOutOfBoundsException" "java/lang/IndexOutOfBoundsException" :: z_dcl.map Cond.declares := by decide +kernel
theorem z_tc0 : ∀ w ∈ (vx_at0 RX11 387 "java/lang/IndexOutOfBoundsException" ["java/lang/RuntimeException", "java/lang/Exception"]), vx_ot w = true := by decide +kernel
theorem z_td0 : Cond.initialized "java/lang/IndexOutOfBoundsException" ∈ z_T := z_w_in (k := 18) (by decide +kernel)
theorem z_ta1 : ∀ w ∈ (vx_at0 RX11 390 "java/lang/IllegalArgumentException" ["java/lang/RuntimeException", "java/lang/Exception"]).filter goodWord, w ∈ lw_tbl := by decide +kernel
theorem z_tb1 : ∀ w ∈ (vx_at0 RX11 390 "java/lang/IllegalArgumentException" ["java/lang/RuntimeException", "java/lang/Exception"]).filter (fun w => !goodWord w), w ∈ Cond.castable "java/lang/IllegalArgumentException" "java/lang/IllegalArgumentException" :: z_dcl.map Cond.declares := by decide +kernel
theorem z_tc1 : ∀ w ∈ (vx_at0 RX11 390 "java/lang/IllegalArgumentException" ["java/lang/RuntimeException", "java/lang/Exception"]), vx_ot w = true := by decide +kernel
theorem z_td1 : Cond.initialized "java/lang/IllegalArgumentException" ∈ z_T := z_w_in (k := 16) (by decide +kernel)
theorem z_ta2 : ∀ w ∈ (vx_at0 RX11 393 "java/lang/IllegalStateException" ["java/lang/RuntimeException", "java/lang/Exception"]).filter goodWord, w ∈ lw_tbl := by decide +kernel
theorem z_tb2 : ∀ w ∈ (vx_at0 RX11 393 "java/lang/IllegalStateException" ["java/lang/RuntimeException", "java/lang/Exception"]).filter (fun w => !goodWord w), w ∈ Cond.castable "java/lang/IllegalStateException" "java/lang/IllegalStateException" :: z_dcl.map Cond.declares := by decide +kernel
theorem z_tc2 : ∀ w ∈ (vx_at0 RX11 393 "java/lang/IllegalStateException" ["java/lang/RuntimeException", "java/lang/Exception"]), vx_ot w = true := by decide +kernel
theorem z_td2 : Cond.initialized "java/lang/IllegalStateException" ∈ z_T := z_w_in (k := 17) (by decide +kernel)
theorem z_te : ∀ E, E < 3 → (∀ w ∈ (vx_at0 RX11 (387 + 3 * E) (z_exn E) ["java/lang/RuntimeException", "java/lang/Exception"]).filter goodWord, w ∈ lw_tbl) ∧ (∀ w ∈ (vx_at0 RX11 (387 + 3 * E) (z_exn E) ["java/lang/RuntimeException", "java/lang/Exception"]).filter (fun w => !goodWord w), w ∈ Cond.castable (z_exn E) (z_exn E) :: z_dcl.map Cond.declares) ∧ (∀ w ∈ vx_at0 RX11 (387 + 3 * E) (z_exn E) ["java/lang/RuntimeException", "java/lang/Exception"], vx_ot w = true) ∧ Cond.initialized (z_exn E) ∈ z_T ∧ Bundle.fit (z_exn E) = true := by
  intro E hE
  match E, hE with
  | 0, _ => exact ⟨z_ta0, z_tb0, z_tc0, z_td0, by decide +kernel⟩
  | 1, _ => exact ⟨z_ta1, z_tb1, z_tc1, z_td1, by decide +kernel⟩
  | 2, _ => exact ⟨z_ta2, z_tb2, z_tc2, z_td2, by decide +kernel⟩
theorem z_tn : ∀ n ∈ ["java/lang/RuntimeException", "java/lang/Exception"], Bundle.fit n = true := by decide +kernel
section ZTH
variable {l : Launch} {dC : Nat → ClassId} {dI : Nat → Nat → Nat} {cI cZ cJ : ClassId} {q : Nat → Nat} {A : Nat → Prop} {L : Nat} {X : Nat → Int32}
variable {p : Program} {e : Env} {R : Room} {s : State} {m : MethodId} {args : Array Value} {below : List Frame} {meth : Method} {c : Code} {Q : State → Prop} {mi : Nat} {cells slots : Nat} {H : Heap} {locs : List Loc} {ls : Array Slot}
theorem z_keep {S : zS} {H1 : Heap} (hP : va_P (dC, dI) vwCl (z_W cI cZ cJ q S) H) (h : ∀ a : Nat, a < H.size → H1[a]? = H[a]?) : va_P (dC, dI) vwCl (z_W cI cZ cJ q S) H1 := hP.kept (fun k x hk => h x.1 ((hP k x hk).lt))
theorem z_thr {i E ix kw C0 S0 : Nat} {v : Int} {S : zS} {Qc : Array Value → State → Outcome → State → Prop} (hE : E < 3) (hC : z_Cx l mi p R s m args c) (hF : z_Fx dC dI cI cZ cJ q A L X s s.heap) (hok : z_okb mi i (29, E, v, ix, kw) = true) (hlocks : meth.locks = false) (htab : ∀ x ∈ c.exceptionTable.toList, False)
    (hP : va_P (dC, dI) vwCl (z_W cI cZ cJ q S) H) (hX : S 1000 = X) (hS : va_S A s.heap H locs) (hl : ls.size = z_ml mi) (hc : cells + 1 ≤ C0) (hs : slots + 6 ≤ S0) (hC0 : C0 ≤ R.cells) (hS0 : S0 ≤ R.slots) :
    W p l e R s m args below meth c H locs cells slots (vx_MQ below Qc (z_Xc dC dI cI cZ cJ q A X E S) args s C0 S0 A) (F0 m (z_pc mi i) ls []) := by
  obtain ⟨hx, hb, hml, hown, hts, hfr, hlo, htr⟩ := hC
  simp only [z_okb, Bool.and_eq_true, decide_eq_true_eq] at hok
  obtain ⟨⟨⟨⟨⟨⟨⟨⟨d0, d3⟩, d4⟩, d7⟩, hw⟩, h6⟩, h81⟩, htb⟩, -, hm, hcl, hv⟩ := hok
  obtain ⟨t1, t2, t3, t4, t5⟩ := z_te E hE
  have hv9 : v.toNat = 387 + 3 * E := hv
  rw [hcl] at hown
  rw [hcl] at hw
  rw [hv9] at d4
  have hk := hts _ (z_w_in hw)
  have hat : ∀ w ∈ vx_at0 RX11 (387 + 3 * E) (z_exn E) ["java/lang/RuntimeException", "java/lang/Exception"], w.before args s = true :=
    vx_hat (fun w hw => hts w (List.mem_filter.mpr ⟨t1 w hw, (List.mem_filter.mp hw).2⟩)) t2 (fun w hw => by
      rcases List.mem_cons.mp hw with rfl | hw
      · exact va_Nw.use rfl (hF.2.2.2.2.2.2.2.2 E hE)
      obtain ⟨y, hy, rfl⟩ := List.mem_map.mp hw
      exact va_Nw.use rfl (hF.2.2.2.2.2.2.2.1 y hy))
  refine vx_throw0 hx hb htr hown t5 z_tn hk (hts _ t4) hat (fun w hw => ?_) hF.2.2.1 hF.2.2.2.1 hS (hl.trans hml.symm) d0 d3 d4 d7 (fun x hx => (htab x hx).elim) (show 2 + 3 < R.frames by omega) (show 0 + (13 * (2 + 1) + 42) ≤ R.locals by omega) (by omega) (by omega) hlocks (fun t hvm hz hk => ?_) hS.2.2 hc hs
  · rcases List.mem_cons.mp hw with rfl | hw
    · rfl
    · rcases List.mem_cons.mp hw with rfl | hw
      · rfl
      · exact t3 w hw
  · exact ⟨⟨rfl, z_keep hP hk, hX⟩, Nat.le_trans hS.1 hz, fun a h1 h2 => (hk a (Nat.lt_of_lt_of_le h1 hS.1)).trans (hS.2.1 a h1 h2)⟩
end ZTH
end
section
/-! the small machine tells what the machine does -/
def z_isret (mi pcb : Nat) (r : Option zV) : Prop := match r with
  | none => decode (z_b mi) pcb = .ok (.return_, 1) ∧ z_rt mi = none
  | some (.inl x) => decode (z_b mi) pcb = .ok (.ireturn, 1) ∧ (z_rt mi = some .int ∨ (z_rt mi = some .boolean ∧ (x = 0 ∨ x = 1)))
  | some (.inr (.inr _)) => decode (z_b mi) pcb = .ok (.areturn, 1) ∧ ∃ n, z_rt mi = some (.object n)
  | some (.inr (.inl _)) => False
section ZSO
variable {l : Launch} {dC : Nat → ClassId} {dI : Nat → Nat → Nat} {cI cZ cJ : ClassId} {q : Nat → Nat} {A : Nat → Prop} {L : Nat} {X : Nat → Int32}
variable {p : Program} {e : Env} {R : Room} {s : State} {m : MethodId} {args : Array Value} {below : List Frame} {meth : Method} {c : Code} {Q : State → Prop} {mi : Nat} {cells slots : Nat}
def z_End (dC : Nat → ClassId) (dI : Nat → Nat → Nat) (cI cZ cJ : ClassId) (q : Nat → Nat) (A : Nat → Prop) (X : Nat → Int32) (p : Program) (l : Launch) (e : Env) (R : Room) (s : State) (m : MethodId) (args : Array Value) (below : List Frame) (meth : Method) (c : Code) (Q : State → Prop) (mi C0 S0 : Nat) (o : zRes) : Prop := match o.1 with
  | .inl r => ∀ (pcb : Nat) (ls : Array Slot) (H : Heap) (locs : List Loc) (c9 s9 : Nat), z_isret mi pcb r → va_P (dC, dI) vwCl (z_W cI cZ cJ q o.2.1) H → o.2.1 1000 = X → va_S A s.heap H locs → c9 ≤ C0 → s9 ≤ S0 → W p l e R s m args below meth c H locs c9 s9 Q (F0 m pcb ls (r.map (z_cv q)).toList)
  | .inr E => (z_tb mi).isEmpty = true → (∀ (pcb : Nat) (ls : Array Slot) (rest : List Value) (H : Heap) (locs : List Loc) (c9 s9 : Nat) (q9 : Addr) (ce : Cell), va_P (dC, dI) vwCl (z_W cI cZ cJ q o.2.1) H → o.2.1 1000 = X → va_S A s.heap H locs → H[q9]? = some ce → ce.vm = .none → s.vm.findClass (z_exn E) = some ce.cls → c9 ≤ C0 → s9 ≤ S0 → vx_W p l e R s m args below meth c H locs c9 s9 Q (F0 m pcb ls rest) q9) ∧
      (∀ (i ix kw : Nat) (v : Int) (ls : Array Slot) (H : Heap) (locs : List Loc) (c9 s9 : Nat), z_okb mi i (29, E, v, ix, kw) = true → va_P (dC, dI) vwCl (z_W cI cZ cJ q o.2.1) H → o.2.1 1000 = X → va_S A s.heap H locs → ls.size = z_ml mi → c9 + 1 ≤ C0 → s9 + 6 ≤ S0 → W p l e R s m args below meth c H locs c9 s9 Q (F0 m (z_pc mi i) ls []))
def z_BC (l : Launch) (dC : Nat → ClassId) (dI : Nat → Nat → Nat) (cI cZ cJ : ClassId) (q : Nat → Nat) (A : Nat → Prop) (L : Nat) (X : Nat → Int32) (mi : Nat) (cf : zCfg) (o : zRes) : Prop := ∀ (p : Program) (e : Env) (R : Room) (s : State) (m : MethodId) (args : Array Value) (below : List Frame) (meth : Method) (c : Code) (Q : State → Prop) (C0 S0 cells slots : Nat), z_Cx l mi p R s m args c → z_Fx dC dI cI cZ cJ q A L X s s.heap → (¬ (z_tb mi).isEmpty = true → c.exceptionTable.toList = tableOf (z_tb mi)) → cells + o.2.2 ≤ C0 → C0 ≤ R.cells → slots + 6 * o.2.2 ≤ S0 → S0 ≤ R.slots → z_End dC dI cI cZ cJ q A X p l e R s m args below meth c Q mi C0 S0 o → ∀ H locs ls, z_Rl dC dI cI cZ cJ q A X s mi cf H locs ls → W p l e R s m args below meth c H locs cells slots Q (F0 m (z_pc mi cf.1) ls (cf.2.2.1.map (z_cv q)))
set_option maxHeartbeats 1000000 in
/-- a method's contract out of its body, for an answer -/
theorem z_toMet {k n : Nat} {as : List zV} {S S2 : zS} {r : Option zV} (h : z_BC l dC dI cI cZ cJ q A L X k (0, z_ent k as, [], S) (.inl r, S2, n)) (htr : l.stackTraces = false) (hA : z_Ap q A) (hmok : z_mok k = true) (has : as.all (fun v => z_cat v == 1) = true) (hlen : as.length ≤ z_ml k) (hpc : z_pc k 0 = 0) :
    Met l (z_y k) (z_ws k) (z_rm k n) (z_Pc dC dI cI cZ cJ q A L X as S) (z_Qc dC dI cI cZ cJ q A X r S2) n (6 * n) A := by
  obtain ⟨m1, m2, m3, m4, m5, m6, m7, m8, m9⟩ := z_mok_un hmok
  have key : ∀ p e s m args below meth c s₁, BodyLoose p l (z_y k) (headSpec (z_ws k) (z_rm k n)) (z_b k) (z_ml k) (z_rt k) e s m args below meth c s₁ → c.maxLocals = z_ml k → (¬ (z_tb k).isEmpty = true → c.exceptionTable.toList = tableOf (z_tb k)) → z_Pc dC dI cI cZ cJ q A L X as S args s →
      W p l e (headSpec (z_ws k) (z_rm k n)).room s m args below meth c s.heap [] 0 0 (MQ below (z_Qc dC dI cI cZ cJ q A X r S2) args s n (6 * n) A) (entryFrame m args (z_ml k)) := by
    intro p e s m args below meth c s₁ B hml htab hv
    obtain ⟨rfl, hFx, hP, hX⟩ := hv
    have hCx : z_Cx l k p (z_rm k n) s m (as.map (z_cv q)).toArray c := ⟨B.exec, B.bytes, hml, findClass_of_methodNamed B.named, fun w hw => atoms_spec (ws := z_ws k) B.pre w (List.mem_cons_of_mem _ hw), Nat.le_refl _, Nat.le_refl _, htr⟩
    rw [lg_entry_eq]
    have hE : z_End dC dI cI cZ cJ q A X p l e (z_rm k n) s m (as.map (z_cv q)).toArray below meth c (MQ below (z_Qc dC dI cI cZ cJ q A X r S2) (as.map (z_cv q)).toArray s n (6 * n) A) k n (6 * n) (.inl r, S2, n) := by
      intro pcb ls H locs c9 s9 hret hP2 hX2 hS2 hc9 hs9
      refine W.widen hc9 hs9 ?_
      have hq : ∀ t : State, t.heap = H → s.WarmedH t.vm → z_Qc dC dI cI cZ cJ q A X r S2 (as.map (z_cv q)).toArray s (.returned (r.map (z_cv q))) t := fun t ht hW => ⟨⟨rfl, by rw [ht]; exact hP2, hX2⟩, hS2.F ht⟩
      rcases r with _ | x | x | x
      · exact W.vret B.exec B.bytes (B.returns.trans hret.2) hq hS2.2.2 hret.1 B.notSynchronized
      · rcases hret.2 with h1 | ⟨h1, h2⟩
        · exact W.iret B.exec B.bytes (B.returns.trans h1) hq hS2.2.2 hret.1 B.notSynchronized
        · exact W.zret B.exec B.bytes (B.returns.trans h1) (by rcases h2 with rfl | rfl <;> rfl) hq hS2.2.2 hret.1 B.notSynchronized
      · exact hret.elim
      · obtain ⟨nm, h1⟩ := hret.2
        exact W.aret B.exec B.bytes (B.returns.trans h1) (Or.inl ⟨nm, rfl⟩) (Or.inr ⟨_, rfl⟩) hq hS2.2.2 hret.1 B.notSynchronized
    have h9 := h p e (z_rm k n) s m (as.map (z_cv q)).toArray below meth c _ n (6 * n) 0 0 hCx hFx htab (by show 0 + n ≤ n; omega) (Nat.le_refl _) (by show 0 + 6 * n ≤ 6 * n; omega) (Nat.le_refl _) hE s.heap [] _ ⟨hP, hX, va_S.rf, z_entry (q := q) has hlen, z_ent_len hlen⟩
    dsimp only at h9
    rw [hpc] at h9
    exact h9
  by_cases hb : (z_tb k).isEmpty = true
  · exact z_ofW (cc := z_b k) (maxL := z_ml k) (ret := z_rt k) m5 (z_ws_code hb) (fun p e s m args below meth c s₁ B hml hv => key p e s m args below meth c s₁ B hml (fun h => absurd hb h) hv)
  · exact z_ofWH (cc := z_b k) (maxL := z_ml k) (ret := z_rt k) (hh := z_tb k) m5 (z_ws_with hb) (fun p e s m args below meth c s₁ B hml hv => key p e s m args below meth c s₁ B hml (fun _ => vx_table (x := z_y k) B (atoms_spec (ws := z_ws k) B.pre _ (by rw [z_ws_with hb]; exact List.mem_cons_self))) hv)
set_option maxHeartbeats 1000000 in
/-- the same, for a throw -/
theorem z_toMetX {k n E : Nat} {as : List zV} {S S2 : zS} (hE3 : E < 3) (h : z_BC l dC dI cI cZ cJ q A L X k (0, z_ent k as, [], S) (.inr E, S2, n)) (htr : l.stackTraces = false) (hA : z_Ap q A) (hmok : z_mok k = true) (has : as.all (fun v => z_cat v == 1) = true) (hlen : as.length ≤ z_ml k) (hpc : z_pc k 0 = 0) :
    vx_Met l (z_y k) (z_ws k) (z_rm k n) (z_Pc dC dI cI cZ cJ q A L X as S) (fun _ _ _ _ => False) (z_Xc dC dI cI cZ cJ q A X E S2) n (6 * n) A := by
  obtain ⟨m1, m2, m3, m4, m5, m6, m7, m8, m9⟩ := z_mok_un hmok
  have key : ∀ p e s m args below meth c s₁, BodyLoose p l (z_y k) (headSpec (z_ws k) (z_rm k n)) (z_b k) (z_ml k) (z_rt k) e s m args below meth c s₁ → c.maxLocals = z_ml k → ((z_tb k).isEmpty = true → ∀ x ∈ c.exceptionTable.toList, False) → (¬ (z_tb k).isEmpty = true → c.exceptionTable.toList = tableOf (z_tb k)) → z_Pc dC dI cI cZ cJ q A L X as S args s →
      W p l e (headSpec (z_ws k) (z_rm k n)).room s m args below meth c s.heap [] 0 0 (vx_MQ below (fun _ _ _ _ => False) (z_Xc dC dI cI cZ cJ q A X E S2) args s n (6 * n) A) (entryFrame m args (z_ml k)) := by
    intro p e s m args below meth c s₁ B hml hno htab hv
    obtain ⟨rfl, hFx, hP, hX⟩ := hv
    have hCx : z_Cx l k p (z_rm k n) s m (as.map (z_cv q)).toArray c := ⟨B.exec, B.bytes, hml, findClass_of_methodNamed B.named, fun w hw => atoms_spec (ws := z_ws k) B.pre w (List.mem_cons_of_mem _ hw), Nat.le_refl _, Nat.le_refl _, htr⟩
    rw [lg_entry_eq]
    have hE : z_End dC dI cI cZ cJ q A X p l e (z_rm k n) s m (as.map (z_cv q)).toArray below meth c (vx_MQ below (fun _ _ _ _ => False) (z_Xc dC dI cI cZ cJ q A X E S2) (as.map (z_cv q)).toArray s n (6 * n) A) k n (6 * n) (.inr E, S2, n) := by
      intro hbe
      refine ⟨fun pcb ls rest H locs c9 s9 q9 ce hP2 hX2 hS2 hce hcv hcl hc9 hs9 => ?_, fun i ix kw v ls H locs c9 s9 hok hP2 hX2 hS2 hls hc9 hs9 => ?_⟩
      · exact vx_out (fun x hx => (hno hbe x hx).elim) B.notSynchronized hce hcv hcl (fun t ht hW => ⟨⟨rfl, by rw [ht]; exact hP2, hX2⟩, hS2.F ht⟩) hS2.2.2 hc9 hs9
      · exact z_thr hE3 hCx hFx hok B.notSynchronized (hno hbe) hP2 hX2 hS2 hls hc9 hs9 (Nat.le_refl _) (Nat.le_refl _)
    have h9 := h p e (z_rm k n) s m (as.map (z_cv q)).toArray below meth c _ n (6 * n) 0 0 hCx hFx htab (by show 0 + n ≤ n; omega) (Nat.le_refl _) (by show 0 + 6 * n ≤ 6 * n; omega) (Nat.le_refl _) hE s.heap [] _ ⟨hP, hX, va_S.rf, z_entry (q := q) has hlen, z_ent_len hlen⟩
    dsimp only at h9
    rw [hpc] at h9
    exact h9
  by_cases hb : (z_tb k).isEmpty = true
  · exact z_xofW (cc := z_b k) (maxL := z_ml k) (ret := z_rt k) m5 (z_ws_code hb) (fun p e s m args below meth c s₁ B hml hno hv => key p e s m args below meth c s₁ B hml (fun _ => hno) (fun h => absurd hb h) hv)
  · exact z_xofWH (cc := z_b k) (maxL := z_ml k) (ret := z_rt k) (hh := z_tb k) m5 (z_ws_with hb) (fun p e s m args below meth c s₁ B hml hv => key p e s m args below meth c s₁ B hml (fun h => absurd h hb) (fun _ => vx_table (x := z_y k) B (atoms_spec (ws := z_ws k) B.pre _ (by rw [z_ws_with hb]; exact List.mem_cons_self))) hv)
theorem z_hd_split : ∀ (hs : List (Nat × Nat × Nat × Nat × Nat × Nat)) {E : Nat} {v : Int32}, z_hd hs E = some v → ∃ pre h suf, hs = pre ++ h :: suf ∧ h.1 = E ∧ v = Int32.ofNat h.2.2.2.2.2
  | [], E, v, h => by cases h
  | h :: r, E, v, hh => by
    unfold z_hd at hh
    split at hh
    · next he => cases hh; exact ⟨[], h, r, rfl, he, rfl⟩
    · obtain ⟨pre, h9, suf, e1, e2, e3⟩ := z_hd_split r hh
      exact ⟨h :: pre, h9, suf, by rw [e1]; rfl, e2, e3⟩
set_option maxHeartbeats 1000000 in
/-- a throw that is caught by a handler of the method's own -/
theorem z_caught {pcb E : Nat} {v : Int32} {H : Heap} {locs : List Loc} {ls : Array Slot} {lw : List (Nat × Value)} {rest : List Value} {q9 : Addr} {ce : Cell} (hC : z_Cx l mi p R s m args c) (hF : z_Fx dC dI cI cZ cJ q A L X s s.heap) (htab : c.exceptionTable.toList = tableOf (z_tb mi)) (hck : z_hck mi pcb = true) (hhd : z_hd (z_th mi) E = some v) (hl : lv_has ls (z_ml mi) lw) (hce : H[q9]? = some ce) (hcv : ce.vm = .none) (hcl : s.vm.findClass (z_exn E) = some ce.cls)
    (kk : ∀ (pc9 : Nat) (ls9 : Array Slot), z_isret mi pc9 (some (.inl v)) → W p l e R s m args below meth c H locs cells slots Q (F0 m pc9 ls9 [.int v])) : vx_W p l e R s m args below meth c H locs cells slots Q (F0 m pcb ls rest) q9 := by
  obtain ⟨hx, hb, hml, hown, hts, hfr, hlo, htr⟩ := hC
  simp only [z_hck, Bool.and_eq_true, decide_eq_true_eq, List.all_eq_true, Bool.or_eq_true] at hck
  obtain ⟨⟨⟨⟨⟨hmap, hcov⟩, hrt⟩, hcls⟩, hall⟩, hpw⟩ := hck
  obtain ⟨pre, h, suf, e1, e2, e3⟩ := z_hd_split _ hhd
  rw [e1] at hmap hpw
  rw [List.map_append, List.map_cons] at hmap
  obtain ⟨tp, ts, f1, f2, f3⟩ := List.map_eq_append_iff.mp hmap
  obtain ⟨t, ts', g1, g2, g3⟩ := List.map_eq_cons_iff.mp f3
  rw [g1] at f1
  have hin : h ∈ z_th mi := by rw [e1]; simp
  have htin : t ∈ z_tb mi := by rw [f1]; simp
  obtain ⟨⟨⟨⟨hE3, hw⟩, hav⟩, hkv⟩, hdec⟩ := hall h hin
  obtain ⟨⟨c1, c2⟩, c3⟩ := hcov t htin
  have ht2 : t.2.2.1 = h.2.1 ∧ t.2.2.2 = h.2.2.1 := by simpa using g2
  rw [hcls] at hown
  have hsplit : c.exceptionTable.toList = tableOf tp ++ (⟨t.1, t.2.1, t.2.2.1, t.2.2.2⟩ : ExceptionTableEntry) :: tableOf ts' := by rw [htab, f1]; simp [tableOf]
  have hpass : ∀ z ∈ tableOf tp, covers z pcb = false ∨ (z.catchType ≠ 0 ∧ ∃ nm : String, (Cond.classLink RL z.catchType nm).before args s = true ∧ va_Nc (z_exn E) nm s) := by
    intro z hz
    obtain ⟨t0, ht0, rfl⟩ := List.mem_map.mp hz
    have hm0 : (t0.2.2.1, t0.2.2.2) ∈ pre.map (fun h => (h.2.1, h.2.2.1)) := by rw [← f2]; exact List.mem_map.mpr ⟨t0, ht0, rfl⟩
    obtain ⟨h0, hh0, hh1⟩ := List.mem_map.mp hm0
    have hh2 : h0.2.2.1 = t0.2.2.2 := by simpa using (Prod.ext_iff.mp hh1).2
    have hin0 : h0 ∈ z_th mi := by rw [e1]; exact List.mem_append_left _ hh0
    obtain ⟨⟨⟨⟨hE0, hw0⟩, -⟩, -⟩, -⟩ := hall h0 hin0
    have hlt : h0.1 < h.1 := (List.pairwise_append.mp hpw).2.2 h0 hh0 h List.mem_cons_self
    refine Or.inr ⟨(hcov t0 (by rw [f1]; exact List.mem_append_left _ ht0)).2, z_exn h0.1, ?_, ?_⟩
    · have := hts _ (z_w_in hw0)
      rwa [hh2] at this
    · rw [← e2]; exact hF.2.2.2.2.2.2.1 _ _ hlt hE3
  have hcx : covers (⟨t.1, t.2.1, t.2.2.1, t.2.2.2⟩ : ExceptionTableEntry) pcb = true := by simp [covers, c1, c2]
  have hlk : (Cond.classLink RL t.2.2.2 (z_exn E)).before args s = true := by
    have := hts _ (z_w_in hw)
    rw [e2] at this
    rwa [ht2.2]
  refine vx_catch hown (tableOf tp) _ (tableOf ts') hsplit hpass hcx c3 hlk (va_Nw.use rfl (hF.2.2.2.2.2.2.2.2 E (by rw [← e2]; exact hE3))) hce hcv hcl ?_
  show W p l e R s m args below meth c H locs cells slots Q (F0 m t.2.2.1 ls [.ref q9])
  rw [ht2.1]
  have hkv2 : Int32.ofInt (Int.ofNat h.2.2.2.2.2) = v := by rw [e3]; exact hkv
  rcases hdec with ⟨⟨⟨d0, d1⟩, d2⟩, d3⟩ | ⟨⟨d1, d2⟩, d3⟩
  · refine lv_astore_n hx hb d1 (Nat.mod_eq_of_lt d0) hl hav rfl (fun ls9 _ => ?_)
    refine lv_iconst hx hb d2 hkv2 ?_
    exact kk _ ls9 ⟨d3, Or.inl hrt⟩
  · refine lv_astore hx hb d1 hl hav rfl (fun ls9 _ => ?_)
    refine lv_iconst hx hb d2 hkv2 ?_
    exact kk _ ls9 ⟨d3, Or.inl hrt⟩
end ZSO
end
section
/-! rows ahead: calls, answers and throws are no next places -/
theorem z_nx21 {L pc a : Nat} {b : Int} {lv : List (Option zV)} {st : List zV} {S : zS} {c2 : zCfg} (hs : z_ex L pc lv st S 21 a b = some (.inl c2)) : False := by
  simp only [z_ex, z_call] at hs
  repeat' split at hs
  all_goals (first | (cases hs; done) | (simp at hs; done))
theorem z_nx22 {L pc a : Nat} {b : Int} {lv : List (Option zV)} {st : List zV} {S : zS} {c2 : zCfg} (hs : z_ex L pc lv st S 22 a b = some (.inl c2)) : False := by
  simp only [z_ex, z_call] at hs
  repeat' split at hs
  all_goals (first | (cases hs; done) | (simp at hs; done))
theorem z_nx25 {L pc a : Nat} {b : Int} {lv : List (Option zV)} {st : List zV} {S : zS} {c2 : zCfg} (hs : z_ex L pc lv st S 25 a b = some (.inl c2)) : False := by
  simp only [z_ex, z_call] at hs
  repeat' split at hs
  all_goals (first | (cases hs; done) | (simp at hs; done))
theorem z_nx26 {L pc a : Nat} {b : Int} {lv : List (Option zV)} {st : List zV} {S : zS} {c2 : zCfg} (hs : z_ex L pc lv st S 26 a b = some (.inl c2)) : False := by
  simp only [z_ex, z_call] at hs
  repeat' split at hs
  all_goals (first | (cases hs; done) | (simp at hs; done))
theorem z_nx27 {L pc a : Nat} {b : Int} {lv : List (Option zV)} {st : List zV} {S : zS} {c2 : zCfg} (hs : z_ex L pc lv st S 27 a b = some (.inl c2)) : False := by
  simp only [z_ex, z_call] at hs
  repeat' split at hs
  all_goals (first | (cases hs; done) | (simp at hs; done))
theorem z_nx28 {L pc a : Nat} {b : Int} {lv : List (Option zV)} {st : List zV} {S : zS} {c2 : zCfg} (hs : z_ex L pc lv st S 28 a b = some (.inl c2)) : False := by
  simp only [z_ex, z_call] at hs
  repeat' split at hs
  all_goals (first | (cases hs; done) | (simp at hs; done))
theorem z_nx29 {L pc a : Nat} {b : Int} {lv : List (Option zV)} {st : List zV} {S : zS} {c2 : zCfg} (hs : z_ex L pc lv st S 29 a b = some (.inl c2)) : False := by
  simp only [z_ex, z_call] at hs
  repeat' split at hs
  all_goals (first | (cases hs; done) | (simp at hs; done))
theorem z_nx32 {L pc a : Nat} {b : Int} {lv : List (Option zV)} {st : List zV} {S : zS} {c2 : zCfg} (hs : z_ex L pc lv st S 32 a b = some (.inl c2)) : False := by
  simp only [z_ex, z_call] at hs
  repeat' split at hs
  all_goals (first | (cases hs; done) | (simp at hs; done))
theorem z_nx35 {L pc a : Nat} {b : Int} {lv : List (Option zV)} {st : List zV} {S : zS} {c2 : zCfg} (hs : z_ex L pc lv st S 35 a b = some (.inl c2)) : False := by
  simp only [z_ex, z_call] at hs
  repeat' split at hs
  all_goals (first | (cases hs; done) | (simp at hs; done))
section ZSW
variable {l : Launch} {dC : Nat → ClassId} {dI : Nat → Nat → Nat} {cI cZ cJ : ClassId} {q : Nat → Nat} {A : Nat → Prop} {L : Nat} {X : Nat → Int32}
variable {p : Program} {e : Env} {R : Room} {s : State} {m : MethodId} {args : Array Value} {below : List Frame} {meth : Method} {c : Code} {Q : State → Prop} {mi : Nat} {cells slots : Nat}
variable {pc : Nat} {lv : List (Option zV)} {st : List zV} {S : zS} {c2 : zCfg}
theorem z_sel_at {f : Nat → Option zO} {x : Int32} {d : Nat} {r : Option zO} : ∀ {ps : List (Int × Nat)}, z_sel ps d x f = r → (∃ (pre : List (Int × Nat)) (t : Nat) (suf : List (Int × Nat)), ps = pre ++ (x.toInt, t) :: suf ∧ (∀ y ∈ pre, x.toInt ≠ y.1) ∧ f t = r) ∨ ((∀ y ∈ ps, x.toInt ≠ y.1) ∧ f d = r)
  | [], h => Or.inr ⟨fun _ h => absurd h List.not_mem_nil, h⟩
  | y :: ps, h => by
    unfold z_sel at h
    split at h
    · next he => exact Or.inl ⟨[], y.2, ps, by rw [he]; rfl, fun _ h => absurd h List.not_mem_nil, h⟩
    · next he =>
      rcases z_sel_at h with ⟨pre, t, suf, e1, e2, e3⟩ | ⟨e1, e2⟩
      · exact Or.inl ⟨y :: pre, t, suf, by rw [e1]; rfl, fun z hz => (List.mem_cons.mp hz).elim (fun e => by rw [e]; exact he) (e2 z), e3⟩
      · exact Or.inr ⟨fun z hz => (List.mem_cons.mp hz).elim (fun e => by rw [e]; exact he) (e1 z), e2⟩
theorem z_off_skip {x d : Int} : ∀ (pre : List (Int × Int)) {suf : List (Int × Int)}, (∀ y ∈ pre, x ≠ y.1) → Op.lookupswitch.offset (pre ++ suf) d x = Op.lookupswitch.offset suf d x
  | [], suf, _ => rfl
  | y :: pre, suf, h => by
    rw [List.cons_append, Op.lookupswitch.offset_cons, if_neg (fun e => h y List.mem_cons_self e.symm)]
    exact z_off_skip pre (fun z hz => h z (List.mem_cons_of_mem _ hz))
set_option maxHeartbeats 1000000 in
theorem z_s20 {a ix kw : Nat} {b : Int} (hC : z_Cx l mi p R s m args c) (hF : z_Fx dC dI cI cZ cJ q A L X s s.heap) (hA : z_Ap q A) (hok : z_okb mi pc (20, a, b, ix, kw) = true) (hs : z_ex L pc lv st S 20 a b = some (.inl c2)) (hsl : slots ≤ R.slots) (hce : cells ≤ R.cells)
    (kk : ∀ H locs ls, z_Rl dC dI cI cZ cJ q A X s mi c2 H locs ls → W p l e R s m args below meth c H locs cells slots Q (F0 m (z_pc mi c2.1) ls (c2.2.2.1.map (z_cv q)))) :
    ∀ H locs ls, z_Rl dC dI cI cZ cJ q A X s mi (pc, lv, st, S) H locs ls → W p l e R s m args below meth c H locs cells slots Q (F0 m (z_pc mi pc) ls (st.map (z_cv q))) := by
  intro H locs ls hR
  obtain ⟨hP, hX, hS, hl, hlen⟩ := hR
  dsimp only at hP hX hS hl hlen
  obtain ⟨hx, hb, hml, hown, hts, hfr, hlo, htr⟩ := hC
  simp only [z_ex] at hs
  split at hs
  · next x r =>
    simp only [z_okb] at hok
    split at hok
    · next d ps len hd =>
      simp only [Bool.and_eq_true, decide_eq_true_eq] at hok
      obtain ⟨⟨hsort, hdf⟩, hps⟩ := hok
      rcases z_sel_at hs with ⟨pre, t, suf, e1, e2, e3⟩ | ⟨e1, e3⟩
      · cases e3
        rw [e1, List.map_append, List.map_cons] at hps
        obtain ⟨p1, p2, f1, f2, f3⟩ := List.map_eq_append_iff.mp hps
        obtain ⟨y, p3, g1, g2, g3⟩ := List.map_eq_cons_iff.mp f3
        have hy : y.1 = x.toInt ∧ (z_pc mi pc : Int) + y.2 = (z_pc mi t : Int) := by simpa using g2
        have hskip : ∀ z ∈ p1, x.toInt ≠ z.1 := by
          intro z hz he
          have hm : (z.1, (z_pc mi pc : Int) + z.2) ∈ pre.map (fun p => (p.1, (z_pc mi p.2 : Int))) := by rw [← f2]; exact List.mem_map.mpr ⟨z, hz, rfl⟩
          obtain ⟨w, hw, hw2⟩ := List.mem_map.mp hm
          exact e2 w hw (he.trans (Prod.ext_iff.mp hw2).1.symm)
        have hoff : Op.lookupswitch.offset ps.toList d x.toInt = y.2 := by
          rw [f1, z_off_skip p1 hskip, g1, Op.lookupswitch.offset_cons, if_pos hy.1]
        exact lv_lookup hx hb hd hsort hoff hy.2 (kk H locs ls ⟨hP, hX, hS, hl, hlen⟩)
      · cases e3
        have hskip : ∀ z ∈ ps.toList, x.toInt ≠ z.1 := by
          intro z hz he
          have hm : (z.1, (z_pc mi pc : Int) + z.2) ∈ (z_sw.getD a (0, [])).2.map (fun p => (p.1, (z_pc mi p.2 : Int))) := by rw [← hps]; exact List.mem_map.mpr ⟨z, hz, rfl⟩
          obtain ⟨w, hw, hw2⟩ := List.mem_map.mp hm
          exact e1 w hw (he.trans (Prod.ext_iff.mp hw2).1.symm)
        have hoff : Op.lookupswitch.offset ps.toList d x.toInt = d := by
          have := z_off_skip (d := d) ps.toList (suf := []) hskip
          rw [List.append_nil] at this
          rw [this]; rfl
        exact lv_lookup hx hb hd hsort hoff hdf (kk H locs ls ⟨hP, hX, hS, hl, hlen⟩)
    · cases hok
  · cases hs
set_option maxHeartbeats 1000000 in
theorem z_s36 {a ix kw : Nat} {b : Int} (hC : z_Cx l mi p R s m args c) (hF : z_Fx dC dI cI cZ cJ q A L X s s.heap) (hA : z_Ap q A) (hok : z_okb mi pc (36, a, b, ix, kw) = true) (hs : z_ex L pc lv st S 36 a b = some (.inl c2)) (hsl : slots ≤ R.slots) (hce : cells ≤ R.cells)
    (kk : ∀ H locs ls, z_Rl dC dI cI cZ cJ q A X s mi c2 H locs ls → W p l e R s m args below meth c H locs cells slots Q (F0 m (z_pc mi c2.1) ls (c2.2.2.1.map (z_cv q)))) :
    ∀ H locs ls, z_Rl dC dI cI cZ cJ q A X s mi (pc, lv, st, S) H locs ls → W p l e R s m args below meth c H locs cells slots Q (F0 m (z_pc mi pc) ls (st.map (z_cv q))) := by
  intro H locs ls hR
  obtain ⟨hP, hX, hS, hl, hlen⟩ := hR
  dsimp only at hP hX hS hl hlen
  obtain ⟨hx, hb, hml, hown, hts, hfr, hlo, htr⟩ := hC
  simp only [z_ex] at hs
  split at hs
  · next x r =>
    simp only [z_okb] at hok
    split at hok
    · next d lo hi offs len hd =>
      simp only [Bool.and_eq_true, decide_eq_true_eq] at hok
      obtain ⟨⟨⟨hdf, hlo0⟩, hhi⟩, hps⟩ := hok
      subst hlo0
      rcases z_sel_at hs with ⟨pre, t, suf, e1, e2, e3⟩ | ⟨e1, e3⟩
      · cases e3
        have hm : (x.toInt, (z_pc mi t : Int)) ∈ (List.range offs.size).map (fun (j : Nat) => ((j : Int), (z_pc mi pc : Int) + offs.getD j 0)) := by
          rw [hps, e1]; simp
        obtain ⟨j, hj, hj2⟩ := List.mem_map.mp hm
        have hj9 := List.mem_range.mp hj
        have hj3 : (j : Int) = x.toInt ∧ (z_pc mi pc : Int) + offs.getD j 0 = (z_pc mi t : Int) := by simpa using hj2
        refine lv_tableIn hx hb hd (by omega) (by omega) (off := offs.getD j 0) ?_ hj3.2 (kk H locs ls ⟨hP, hX, hS, hl, hlen⟩)
        have hjj : (x.toInt - 0).toNat = j := by omega
        rw [hjj]
        simp [Array.getD, hj9]
      · cases e3
        refine lv_tableOut hx hb hd ?_ hdf (kk H locs ls ⟨hP, hX, hS, hl, hlen⟩)
        rcases Int.lt_or_le x.toInt 0 with h | h
        · exact Or.inl h
        · refine Or.inr ?_
          rcases Int.lt_or_le hi x.toInt with h2 | h2
          · exact h2
          · exfalso
            have hj9 : x.toInt.toNat < offs.size := by omega
            have hm : ((x.toInt.toNat : Int), (z_pc mi pc : Int) + offs.getD x.toInt.toNat 0) ∈ (z_sw.getD a (0, [])).2.map (fun p => (p.1, (z_pc mi p.2 : Int))) := by
              rw [← hps]; exact List.mem_map.mpr ⟨x.toInt.toNat, List.mem_range.mpr hj9, rfl⟩
            obtain ⟨w, hw, hw2⟩ := List.mem_map.mp hm
            have := (Prod.ext_iff.mp hw2).1
            dsimp only at this
            exact e1 w hw (by omega)
    · cases hok
  · cases hs
end ZSW
/-! the small machine is right of the machine: by induction on the steps -/
section ZSF
variable {l : Launch} {dC : Nat → ClassId} {dI : Nat → Nat → Nat} {cI cZ cJ : ClassId} {q : Nat → Nat} {A : Nat → Prop} {L : Nat} {X : Nat → Int32}
variable {p : Program} {e : Env} {R : Room} {s : State} {m : MethodId} {args : Array Value} {below : List Frame} {meth : Method} {c : Code} {Q : State → Prop} {mi : Nat} {cells slots : Nat}
variable {pc : Nat} {lv : List (Option zV)} {st : List zV} {S : zS} {c2 : zCfg}
/-- what is asked of the tables -/
def z_Good : Prop := (∀ (mi i : Nat) (x : zI), z_ins mi i = some x → x.1 = 99 ∨ z_okb mi i x = true) ∧ (∀ a, a < 372 → z_mok a = true ∧ z_pc a 0 = 0)
set_option maxHeartbeats 1000000 in
theorem z_first (hG : z_Good) (hA : z_Ap q A) (htr : l.stackTraces = false) (x : Int32) (S : zS) : Met l (z_y 195) (z_ws 195) (z_rm 195 0) (z_Pc dC dI cI cZ cJ q A L X [.inl x] S) (z_Qc dC dI cI cZ cJ q A X (some (.inl (x / 36))) S) 0 (6 * 0) A := by
  refine z_toMet (n := 0) ?_ htr hA (hG.2 _ (by decide)).1 rfl (show 1 ≤ z_ml 195 by decide +kernel) (hG.2 _ (by decide)).2
  intro p e R s m args below meth c Q C0 S0 cells slots hC hF htab hc1 hc2 hs1 hs2 hE H locs ls hR
  have ok : ∀ i x, z_ins 195 i = some x → x.1 ≠ 99 → z_okb 195 i x = true := fun i x h h9 => (hG.1 _ _ _ h).resolve_left h9
  have hcc : cells + 0 ≤ C0 := hc1
  have hss : slots + 6 * 0 ≤ S0 := hs1
  refine z_s1 hC hF hA (ok 0 (1, 0, 0, 0, 0) rfl (by decide)) (lv := z_ent 195 [.inl x]) (st := []) (S := S) (c2 := (1, z_ent 195 [.inl x], [.inl x], S)) rfl (by omega) (by omega) ?_ H locs ls hR
  refine z_s0 hC hF hA (ok 1 (0, 0, 36, 0, 0) rfl (by decide)) (L := L) (c2 := (2, z_ent 195 [.inl x], [.inl 36, .inl x], S)) rfl (by omega) (by omega) ?_
  refine z_s13 hC hF hA (ok 2 (13, 3, 0, 0, 0) rfl (by decide)) (L := L) (c2 := (3, z_ent 195 [.inl x], [.inl (x / 36)], S)) rfl (by omega) (by omega) ?_
  intro H locs ls hR
  have hok := ok 3 (25, 0, 0, 0, 0) rfl (by decide)
  simp only [z_okb, Bool.and_eq_true, decide_eq_true_eq] at hok
  exact hE _ ls H locs cells slots ⟨hok.1, Or.inl hok.2⟩ hR.1 hR.2.1 hR.2.2.1 (by omega) (by omega)
set_option maxHeartbeats 1000000 in
theorem z_s34 {a ix kw : Nat} {b : Int} (hG : z_Good) (hC : z_Cx l mi p R s m args c) (hF : z_Fx dC dI cI cZ cJ q A L X s s.heap) (hA : z_Ap q A) (hok : z_okb mi pc (34, a, b, ix, kw) = true) (hs : z_ex L pc lv st S 34 a b = some (.inl c2)) (hsl : slots ≤ R.slots) (hce : cells ≤ R.cells)
    (kk : ∀ H locs ls, z_Rl dC dI cI cZ cJ q A X s mi c2 H locs ls → W p l e R s m args below meth c H locs cells slots Q (F0 m (z_pc mi c2.1) ls (c2.2.2.1.map (z_cv q)))) :
    ∀ H locs ls, z_Rl dC dI cI cZ cJ q A X s mi (pc, lv, st, S) H locs ls → W p l e R s m args below meth c H locs cells slots Q (F0 m (z_pc mi pc) ls (st.map (z_cv q))) := by
  intro H locs ls hR
  obtain ⟨hP, hX, hS, hl, hlen⟩ := hR
  dsimp only at hP hX hS hl hlen
  simp only [z_okb, z_d, Bool.and_eq_true, decide_eq_true_eq] at hok
  obtain ⟨⟨⟨⟨⟨⟨⟨⟨⟨hd, hn⟩, ha⟩, hy⟩, hy2⟩, hcal⟩, hst⟩, hth⟩, htb⟩, htba⟩ := hok
  subst ha
  simp only [z_ex] at hs
  split at hs
  · next x r =>
    split at hs
    · next hr =>
      cases hs
      have hM := z_first (dC := dC) (dI := dI) (cI := cI) (cZ := cZ) (cJ := cJ) (L := L) (X := X) hG hA hC.2.2.2.2.2.2.2 x S
      have hrun := z_cN (ix := 0) (e := e) (meth := meth) (below := below) (as := [.inl x]) (rest := r) (ls := ls) (pc := z_pc mi pc) (cells := cells) (slots := slots) hC hF hA hd hy hy2 hcal (hG.2 _ (by decide)).1 htba hst (show 1 = z_na 195 by decide +kernel) hr hM hP hX hS hl (by omega) (by omega)
      refine z_back hrun hS (fun H1 locs1 hP1 hX1 hS1 => ?_)
      have h9 := kk H1 locs1 ls ⟨hP1, hX1, hS1, hl, hlen⟩
      dsimp only at h9
      rw [hn] at h9
      exact h9
    · cases hs
  · cases hs

set_option maxHeartbeats 2000000 in
theorem z_next {x : zI} (hG : z_Good) (hC : z_Cx l mi p R s m args c) (hF : z_Fx dC dI cI cZ cJ q A L X s s.heap) (hA : z_Ap q A) (hok : z_okb mi pc x = true) (hs : z_ex L pc lv st S x.1 x.2.1 x.2.2.1 = some (.inl c2)) (hsl : slots ≤ R.slots) (hce : cells ≤ R.cells)
    (kk : ∀ H locs ls, z_Rl dC dI cI cZ cJ q A X s mi c2 H locs ls → W p l e R s m args below meth c H locs cells slots Q (F0 m (z_pc mi c2.1) ls (c2.2.2.1.map (z_cv q)))) :
    ∀ H locs ls, z_Rl dC dI cI cZ cJ q A X s mi (pc, lv, st, S) H locs ls → W p l e R s m args below meth c H locs cells slots Q (F0 m (z_pc mi pc) ls (st.map (z_cv q))) := by
  obtain ⟨op, a, b, ix, kw⟩ := x
  dsimp only at hs
  match op, hok, hs with
  | 0, hok, hs => exact z_s0 hC hF hA hok hs hsl hce kk
  | 1, hok, hs => exact z_s1 hC hF hA hok hs hsl hce kk
  | 2, hok, hs => exact z_s2 hC hF hA hok hs hsl hce kk
  | 3, hok, hs => exact z_s3 hC hF hA hok hs hsl hce kk
  | 4, hok, hs => exact z_s4 hC hF hA hok hs hsl hce kk
  | 5, hok, hs => exact z_s5 hC hF hA hok hs hsl hce kk
  | 6, hok, hs => exact z_s6 hC hF hA hok hs hsl hce kk
  | 7, hok, hs => exact z_s7 hC hF hA hok hs hsl hce kk
  | 8, hok, hs => exact z_s8 hC hF hA hok hs hsl hce kk
  | 9, hok, hs => exact z_s9 hC hF hA hok hs hsl hce kk
  | 10, hok, hs => exact z_s10 hC hF hA hok hs hsl hce kk
  | 11, hok, hs => exact z_s11 hC hF hA hok hs hsl hce kk
  | 12, hok, hs => exact z_s12 hC hF hA hok hs hsl hce kk
  | 13, hok, hs => exact z_s13 hC hF hA hok hs hsl hce kk
  | 14, hok, hs => exact z_s14 hC hF hA hok hs hsl hce kk
  | 15, hok, hs => exact z_s15 hC hF hA hok hs hsl hce kk
  | 16, hok, hs => exact z_s16 hC hF hA hok hs hsl hce kk
  | 17, hok, hs => exact z_s17 hC hF hA hok hs hsl hce kk
  | 18, hok, hs => exact z_s18 hC hF hA hok hs hsl hce kk
  | 19, hok, hs => exact z_s19 hC hF hA hok hs hsl hce kk
  | 20, hok, hs => exact z_s20 hC hF hA hok hs hsl hce kk
  | 21, hok, hs => exact (z_nx21 hs).elim
  | 22, hok, hs => exact (z_nx22 hs).elim
  | 23, hok, hs => exact z_s23 hC hF hA hok hs hsl hce kk
  | 24, hok, hs => exact z_s24 hC hF hA hok hs hsl hce kk
  | 25, hok, hs => exact (z_nx25 hs).elim
  | 26, hok, hs => exact (z_nx26 hs).elim
  | 27, hok, hs => exact (z_nx27 hs).elim
  | 28, hok, hs => exact (z_nx28 hs).elim
  | 29, hok, hs => exact (z_nx29 hs).elim
  | 30, hok, hs => exact z_s30 hC hF hA hok hs hsl hce kk
  | 31, hok, hs => exact z_s31 hC hF hA hok hs hsl hce kk
  | 32, hok, hs => exact (z_nx32 hs).elim
  | 33, hok, hs => exact z_s33 hC hF hA hok hs hsl hce kk
  | 34, hok, hs => exact z_s34 hG hC hF hA hok hs hsl hce kk
  | 35, hok, hs => exact (z_nx35 hs).elim
  | 36, hok, hs => exact z_s36 hC hF hA hok hs hsl hce kk
  | 37, hok, hs => exact z_s37 hC hF hA hok hs hsl hce kk
  | 38, hok, hs => exact z_s38 hC hF hA hok hs hsl hce kk
  | 39, hok, hs => exact z_s39 hC hF hA hok hs hsl hce kk
  | n + 40, hok, hs => cases hok
end ZSF
end
section
theorem z_nr0 {L pc a : Nat} {b : Int} {lv : List (Option zV)} {st : List zV} {S : zS} {r : Option zV} (hs : z_ex L pc lv st S 0 a b = some (.inr (.inr (.inl r)))) : False := by
  simp only [z_ex, z_call, z_br] at hs
  repeat' split at hs
  all_goals (first | (cases hs; done) | (simp at hs; done))
theorem z_nt0 {L pc a E : Nat} {b : Int} {lv : List (Option zV)} {st : List zV} {S : zS} (hs : z_ex L pc lv st S 0 a b = some (.inr (.inr (.inr E)))) : False := by
  simp only [z_ex, z_call, z_br] at hs
  repeat' split at hs
  all_goals (first | (cases hs; done) | (simp at hs; done))
theorem z_nr1 {L pc a : Nat} {b : Int} {lv : List (Option zV)} {st : List zV} {S : zS} {r : Option zV} (hs : z_ex L pc lv st S 1 a b = some (.inr (.inr (.inl r)))) : False := by
  simp only [z_ex, z_call, z_br] at hs
  repeat' split at hs
  all_goals (first | (cases hs; done) | (simp at hs; done))
theorem z_nt1 {L pc a E : Nat} {b : Int} {lv : List (Option zV)} {st : List zV} {S : zS} (hs : z_ex L pc lv st S 1 a b = some (.inr (.inr (.inr E)))) : False := by
  simp only [z_ex, z_call, z_br] at hs
  repeat' split at hs
  all_goals (first | (cases hs; done) | (simp at hs; done))
theorem z_nr2 {L pc a : Nat} {b : Int} {lv : List (Option zV)} {st : List zV} {S : zS} {r : Option zV} (hs : z_ex L pc lv st S 2 a b = some (.inr (.inr (.inl r)))) : False := by
  simp only [z_ex, z_call, z_br] at hs
  repeat' split at hs
  all_goals (first | (cases hs; done) | (simp at hs; done))
theorem z_nt2 {L pc a E : Nat} {b : Int} {lv : List (Option zV)} {st : List zV} {S : zS} (hs : z_ex L pc lv st S 2 a b = some (.inr (.inr (.inr E)))) : False := by
  simp only [z_ex, z_call, z_br] at hs
  repeat' split at hs
  all_goals (first | (cases hs; done) | (simp at hs; done))
theorem z_nr3 {L pc a : Nat} {b : Int} {lv : List (Option zV)} {st : List zV} {S : zS} {r : Option zV} (hs : z_ex L pc lv st S 3 a b = some (.inr (.inr (.inl r)))) : False := by
  simp only [z_ex, z_call, z_br] at hs
  repeat' split at hs
  all_goals (first | (cases hs; done) | (simp at hs; done))
theorem z_nt3 {L pc a E : Nat} {b : Int} {lv : List (Option zV)} {st : List zV} {S : zS} (hs : z_ex L pc lv st S 3 a b = some (.inr (.inr (.inr E)))) : False := by
  simp only [z_ex, z_call, z_br] at hs
  repeat' split at hs
  all_goals (first | (cases hs; done) | (simp at hs; done))
theorem z_nr4 {L pc a : Nat} {b : Int} {lv : List (Option zV)} {st : List zV} {S : zS} {r : Option zV} (hs : z_ex L pc lv st S 4 a b = some (.inr (.inr (.inl r)))) : False := by
  simp only [z_ex, z_call, z_br] at hs
  repeat' split at hs
  all_goals (first | (cases hs; done) | (simp at hs; done))
theorem z_nt4 {L pc a E : Nat} {b : Int} {lv : List (Option zV)} {st : List zV} {S : zS} (hs : z_ex L pc lv st S 4 a b = some (.inr (.inr (.inr E)))) : False := by
  simp only [z_ex, z_call, z_br] at hs
  repeat' split at hs
  all_goals (first | (cases hs; done) | (simp at hs; done))
theorem z_nr5 {L pc a : Nat} {b : Int} {lv : List (Option zV)} {st : List zV} {S : zS} {r : Option zV} (hs : z_ex L pc lv st S 5 a b = some (.inr (.inr (.inl r)))) : False := by
  simp only [z_ex, z_call, z_br] at hs
  repeat' split at hs
  all_goals (first | (cases hs; done) | (simp at hs; done))
theorem z_nt5 {L pc a E : Nat} {b : Int} {lv : List (Option zV)} {st : List zV} {S : zS} (hs : z_ex L pc lv st S 5 a b = some (.inr (.inr (.inr E)))) : False := by
  simp only [z_ex, z_call, z_br] at hs
  repeat' split at hs
  all_goals (first | (cases hs; done) | (simp at hs; done))
theorem z_nr6 {L pc a : Nat} {b : Int} {lv : List (Option zV)} {st : List zV} {S : zS} {r : Option zV} (hs : z_ex L pc lv st S 6 a b = some (.inr (.inr (.inl r)))) : False := by
  simp only [z_ex, z_call, z_br] at hs
  repeat' split at hs
  all_goals (first | (cases hs; done) | (simp at hs; done))
theorem z_nt6 {L pc a E : Nat} {b : Int} {lv : List (Option zV)} {st : List zV} {S : zS} (hs : z_ex L pc lv st S 6 a b = some (.inr (.inr (.inr E)))) : False := by
  simp only [z_ex, z_call, z_br] at hs
  repeat' split at hs
  all_goals (first | (cases hs; done) | (simp at hs; done))
theorem z_nr7 {L pc a : Nat} {b : Int} {lv : List (Option zV)} {st : List zV} {S : zS} {r : Option zV} (hs : z_ex L pc lv st S 7 a b = some (.inr (.inr (.inl r)))) : False := by
  simp only [z_ex, z_call, z_br] at hs
  repeat' split at hs
  all_goals (first | (cases hs; done) | (simp at hs; done))
theorem z_nt7 {L pc a E : Nat} {b : Int} {lv : List (Option zV)} {st : List zV} {S : zS} (hs : z_ex L pc lv st S 7 a b = some (.inr (.inr (.inr E)))) : False := by
  simp only [z_ex, z_call, z_br] at hs
  repeat' split at hs
  all_goals (first | (cases hs; done) | (simp at hs; done))
theorem z_nr8 {L pc a : Nat} {b : Int} {lv : List (Option zV)} {st : List zV} {S : zS} {r : Option zV} (hs : z_ex L pc lv st S 8 a b = some (.inr (.inr (.inl r)))) : False := by
  simp only [z_ex, z_call, z_br] at hs
  repeat' split at hs
  all_goals (first | (cases hs; done) | (simp at hs; done))
theorem z_nt8 {L pc a E : Nat} {b : Int} {lv : List (Option zV)} {st : List zV} {S : zS} (hs : z_ex L pc lv st S 8 a b = some (.inr (.inr (.inr E)))) : False := by
  simp only [z_ex, z_call, z_br] at hs
  repeat' split at hs
  all_goals (first | (cases hs; done) | (simp at hs; done))
theorem z_nr9 {L pc a : Nat} {b : Int} {lv : List (Option zV)} {st : List zV} {S : zS} {r : Option zV} (hs : z_ex L pc lv st S 9 a b = some (.inr (.inr (.inl r)))) : False := by
  simp only [z_ex, z_call, z_br] at hs
  repeat' split at hs
  all_goals (first | (cases hs; done) | (simp at hs; done))
theorem z_nt9 {L pc a E : Nat} {b : Int} {lv : List (Option zV)} {st : List zV} {S : zS} (hs : z_ex L pc lv st S 9 a b = some (.inr (.inr (.inr E)))) : False := by
  simp only [z_ex, z_call, z_br] at hs
  repeat' split at hs
  all_goals (first | (cases hs; done) | (simp at hs; done))
theorem z_nr10 {L pc a : Nat} {b : Int} {lv : List (Option zV)} {st : List zV} {S : zS} {r : Option zV} (hs : z_ex L pc lv st S 10 a b = some (.inr (.inr (.inl r)))) : False := by
  simp only [z_ex, z_call, z_br] at hs
  repeat' split at hs
  all_goals (first | (cases hs; done) | (simp at hs; done))
theorem z_nt10 {L pc a E : Nat} {b : Int} {lv : List (Option zV)} {st : List zV} {S : zS} (hs : z_ex L pc lv st S 10 a b = some (.inr (.inr (.inr E)))) : False := by
  simp only [z_ex, z_call, z_br] at hs
  repeat' split at hs
  all_goals (first | (cases hs; done) | (simp at hs; done))
theorem z_nr11 {L pc a : Nat} {b : Int} {lv : List (Option zV)} {st : List zV} {S : zS} {r : Option zV} (hs : z_ex L pc lv st S 11 a b = some (.inr (.inr (.inl r)))) : False := by
  simp only [z_ex, z_call, z_br] at hs
  repeat' split at hs
  all_goals (first | (cases hs; done) | (simp at hs; done))
theorem z_nt11 {L pc a E : Nat} {b : Int} {lv : List (Option zV)} {st : List zV} {S : zS} (hs : z_ex L pc lv st S 11 a b = some (.inr (.inr (.inr E)))) : False := by
  simp only [z_ex, z_call, z_br] at hs
  repeat' split at hs
  all_goals (first | (cases hs; done) | (simp at hs; done))
theorem z_nr12 {L pc a : Nat} {b : Int} {lv : List (Option zV)} {st : List zV} {S : zS} {r : Option zV} (hs : z_ex L pc lv st S 12 a b = some (.inr (.inr (.inl r)))) : False := by
  simp only [z_ex, z_call, z_br] at hs
  repeat' split at hs
  all_goals (first | (cases hs; done) | (simp at hs; done))
theorem z_nt12 {L pc a E : Nat} {b : Int} {lv : List (Option zV)} {st : List zV} {S : zS} (hs : z_ex L pc lv st S 12 a b = some (.inr (.inr (.inr E)))) : False := by
  simp only [z_ex, z_call, z_br] at hs
  repeat' split at hs
  all_goals (first | (cases hs; done) | (simp at hs; done))
theorem z_nr13 {L pc a : Nat} {b : Int} {lv : List (Option zV)} {st : List zV} {S : zS} {r : Option zV} (hs : z_ex L pc lv st S 13 a b = some (.inr (.inr (.inl r)))) : False := by
  simp only [z_ex, z_call, z_br] at hs
  repeat' split at hs
  all_goals (first | (cases hs; done) | (simp at hs; done))
theorem z_nt13 {L pc a E : Nat} {b : Int} {lv : List (Option zV)} {st : List zV} {S : zS} (hs : z_ex L pc lv st S 13 a b = some (.inr (.inr (.inr E)))) : False := by
  simp only [z_ex, z_call, z_br] at hs
  repeat' split at hs
  all_goals (first | (cases hs; done) | (simp at hs; done))
theorem z_nr14 {L pc a : Nat} {b : Int} {lv : List (Option zV)} {st : List zV} {S : zS} {r : Option zV} (hs : z_ex L pc lv st S 14 a b = some (.inr (.inr (.inl r)))) : False := by
  simp only [z_ex, z_call, z_br] at hs
  repeat' split at hs
  all_goals (first | (cases hs; done) | (simp at hs; done))
theorem z_nt14 {L pc a E : Nat} {b : Int} {lv : List (Option zV)} {st : List zV} {S : zS} (hs : z_ex L pc lv st S 14 a b = some (.inr (.inr (.inr E)))) : False := by
  simp only [z_ex, z_call, z_br] at hs
  repeat' split at hs
  all_goals (first | (cases hs; done) | (simp at hs; done))
theorem z_nr15 {L pc a : Nat} {b : Int} {lv : List (Option zV)} {st : List zV} {S : zS} {r : Option zV} (hs : z_ex L pc lv st S 15 a b = some (.inr (.inr (.inl r)))) : False := by
  simp only [z_ex, z_call, z_br] at hs
  repeat' split at hs
  all_goals (first | (cases hs; done) | (simp at hs; done))
theorem z_nt15 {L pc a E : Nat} {b : Int} {lv : List (Option zV)} {st : List zV} {S : zS} (hs : z_ex L pc lv st S 15 a b = some (.inr (.inr (.inr E)))) : False := by
  simp only [z_ex, z_call, z_br] at hs
  repeat' split at hs
  all_goals (first | (cases hs; done) | (simp at hs; done))
theorem z_nr16 {L pc a : Nat} {b : Int} {lv : List (Option zV)} {st : List zV} {S : zS} {r : Option zV} (hs : z_ex L pc lv st S 16 a b = some (.inr (.inr (.inl r)))) : False := by
  simp only [z_ex, z_call, z_br] at hs
  repeat' split at hs
  all_goals (first | (cases hs; done) | (simp at hs; done))
theorem z_nt16 {L pc a E : Nat} {b : Int} {lv : List (Option zV)} {st : List zV} {S : zS} (hs : z_ex L pc lv st S 16 a b = some (.inr (.inr (.inr E)))) : False := by
  simp only [z_ex, z_call, z_br] at hs
  repeat' split at hs
  all_goals (first | (cases hs; done) | (simp at hs; done))
theorem z_nr17 {L pc a : Nat} {b : Int} {lv : List (Option zV)} {st : List zV} {S : zS} {r : Option zV} (hs : z_ex L pc lv st S 17 a b = some (.inr (.inr (.inl r)))) : False := by
  simp only [z_ex, z_call, z_br] at hs
  repeat' split at hs
  all_goals (first | (cases hs; done) | (simp at hs; done))
theorem z_nt17 {L pc a E : Nat} {b : Int} {lv : List (Option zV)} {st : List zV} {S : zS} (hs : z_ex L pc lv st S 17 a b = some (.inr (.inr (.inr E)))) : False := by
  simp only [z_ex, z_call, z_br] at hs
  repeat' split at hs
  all_goals (first | (cases hs; done) | (simp at hs; done))
theorem z_nr18 {L pc a : Nat} {b : Int} {lv : List (Option zV)} {st : List zV} {S : zS} {r : Option zV} (hs : z_ex L pc lv st S 18 a b = some (.inr (.inr (.inl r)))) : False := by
  simp only [z_ex, z_call, z_br] at hs
  repeat' split at hs
  all_goals (first | (cases hs; done) | (simp at hs; done))
theorem z_nt18 {L pc a E : Nat} {b : Int} {lv : List (Option zV)} {st : List zV} {S : zS} (hs : z_ex L pc lv st S 18 a b = some (.inr (.inr (.inr E)))) : False := by
  simp only [z_ex, z_call, z_br] at hs
  repeat' split at hs
  all_goals (first | (cases hs; done) | (simp at hs; done))
theorem z_nr19 {L pc a : Nat} {b : Int} {lv : List (Option zV)} {st : List zV} {S : zS} {r : Option zV} (hs : z_ex L pc lv st S 19 a b = some (.inr (.inr (.inl r)))) : False := by
  simp only [z_ex, z_call, z_br] at hs
  repeat' split at hs
  all_goals (first | (cases hs; done) | (simp at hs; done))
theorem z_nt19 {L pc a E : Nat} {b : Int} {lv : List (Option zV)} {st : List zV} {S : zS} (hs : z_ex L pc lv st S 19 a b = some (.inr (.inr (.inr E)))) : False := by
  simp only [z_ex, z_call, z_br] at hs
  repeat' split at hs
  all_goals (first | (cases hs; done) | (simp at hs; done))
theorem z_nr20 {L pc a : Nat} {b : Int} {lv : List (Option zV)} {st : List zV} {S : zS} {r : Option zV} (hs : z_ex L pc lv st S 20 a b = some (.inr (.inr (.inl r)))) : False := by
  simp only [z_ex] at hs
  split at hs
  · rcases z_sel_at hs with ⟨pre, t, suf, e1, e2, e3⟩ | ⟨e1, e3⟩ <;> cases e3
  · cases hs
theorem z_nt20 {L pc a : Nat} {b : Int} {lv : List (Option zV)} {st : List zV} {S : zS} {E : Nat} (hs : z_ex L pc lv st S 20 a b = some (.inr (.inr (.inr E)))) : False := by
  simp only [z_ex] at hs
  split at hs
  · rcases z_sel_at hs with ⟨pre, t, suf, e1, e2, e3⟩ | ⟨e1, e3⟩ <;> cases e3
  · cases hs
theorem z_nr21 {L pc a : Nat} {b : Int} {lv : List (Option zV)} {st : List zV} {S : zS} {r : Option zV} (hs : z_ex L pc lv st S 21 a b = some (.inr (.inr (.inl r)))) : False := by
  simp only [z_ex, z_call, z_br] at hs
  repeat' split at hs
  all_goals (first | (cases hs; done) | (simp at hs; done))
theorem z_nt21 {L pc a E : Nat} {b : Int} {lv : List (Option zV)} {st : List zV} {S : zS} (hs : z_ex L pc lv st S 21 a b = some (.inr (.inr (.inr E)))) : False := by
  simp only [z_ex, z_call, z_br] at hs
  repeat' split at hs
  all_goals (first | (cases hs; done) | (simp at hs; done))
theorem z_nr22 {L pc a : Nat} {b : Int} {lv : List (Option zV)} {st : List zV} {S : zS} {r : Option zV} (hs : z_ex L pc lv st S 22 a b = some (.inr (.inr (.inl r)))) : False := by
  simp only [z_ex, z_call, z_br] at hs
  repeat' split at hs
  all_goals (first | (cases hs; done) | (simp at hs; done))
theorem z_nt22 {L pc a E : Nat} {b : Int} {lv : List (Option zV)} {st : List zV} {S : zS} (hs : z_ex L pc lv st S 22 a b = some (.inr (.inr (.inr E)))) : False := by
  simp only [z_ex, z_call, z_br] at hs
  repeat' split at hs
  all_goals (first | (cases hs; done) | (simp at hs; done))
theorem z_nr23 {L pc a : Nat} {b : Int} {lv : List (Option zV)} {st : List zV} {S : zS} {r : Option zV} (hs : z_ex L pc lv st S 23 a b = some (.inr (.inr (.inl r)))) : False := by
  simp only [z_ex, z_call, z_br] at hs
  repeat' split at hs
  all_goals (first | (cases hs; done) | (simp at hs; done))
theorem z_nt23 {L pc a E : Nat} {b : Int} {lv : List (Option zV)} {st : List zV} {S : zS} (hs : z_ex L pc lv st S 23 a b = some (.inr (.inr (.inr E)))) : False := by
  simp only [z_ex, z_call, z_br] at hs
  repeat' split at hs
  all_goals (first | (cases hs; done) | (simp at hs; done))
theorem z_nr24 {L pc a : Nat} {b : Int} {lv : List (Option zV)} {st : List zV} {S : zS} {r : Option zV} (hs : z_ex L pc lv st S 24 a b = some (.inr (.inr (.inl r)))) : False := by
  simp only [z_ex, z_call, z_br] at hs
  repeat' split at hs
  all_goals (first | (cases hs; done) | (simp at hs; done))
theorem z_nt24 {L pc a E : Nat} {b : Int} {lv : List (Option zV)} {st : List zV} {S : zS} (hs : z_ex L pc lv st S 24 a b = some (.inr (.inr (.inr E)))) : False := by
  simp only [z_ex, z_call, z_br] at hs
  repeat' split at hs
  all_goals (first | (cases hs; done) | (simp at hs; done))
theorem z_nt25 {L pc a E : Nat} {b : Int} {lv : List (Option zV)} {st : List zV} {S : zS} (hs : z_ex L pc lv st S 25 a b = some (.inr (.inr (.inr E)))) : False := by
  simp only [z_ex, z_call, z_br] at hs
  repeat' split at hs
  all_goals (first | (cases hs; done) | (simp at hs; done))
theorem z_nt26 {L pc a E : Nat} {b : Int} {lv : List (Option zV)} {st : List zV} {S : zS} (hs : z_ex L pc lv st S 26 a b = some (.inr (.inr (.inr E)))) : False := by
  simp only [z_ex, z_call, z_br] at hs
  repeat' split at hs
  all_goals (first | (cases hs; done) | (simp at hs; done))
theorem z_nt27 {L pc a E : Nat} {b : Int} {lv : List (Option zV)} {st : List zV} {S : zS} (hs : z_ex L pc lv st S 27 a b = some (.inr (.inr (.inr E)))) : False := by
  simp only [z_ex, z_call, z_br] at hs
  repeat' split at hs
  all_goals (first | (cases hs; done) | (simp at hs; done))
theorem z_nt28 {L pc a E : Nat} {b : Int} {lv : List (Option zV)} {st : List zV} {S : zS} (hs : z_ex L pc lv st S 28 a b = some (.inr (.inr (.inr E)))) : False := by
  simp only [z_ex, z_call, z_br] at hs
  repeat' split at hs
  all_goals (first | (cases hs; done) | (simp at hs; done))
theorem z_nr29 {L pc a : Nat} {b : Int} {lv : List (Option zV)} {st : List zV} {S : zS} {r : Option zV} (hs : z_ex L pc lv st S 29 a b = some (.inr (.inr (.inl r)))) : False := by
  simp only [z_ex, z_call, z_br] at hs
  repeat' split at hs
  all_goals (first | (cases hs; done) | (simp at hs; done))
theorem z_nr30 {L pc a : Nat} {b : Int} {lv : List (Option zV)} {st : List zV} {S : zS} {r : Option zV} (hs : z_ex L pc lv st S 30 a b = some (.inr (.inr (.inl r)))) : False := by
  simp only [z_ex, z_call, z_br] at hs
  repeat' split at hs
  all_goals (first | (cases hs; done) | (simp at hs; done))
theorem z_nt30 {L pc a E : Nat} {b : Int} {lv : List (Option zV)} {st : List zV} {S : zS} (hs : z_ex L pc lv st S 30 a b = some (.inr (.inr (.inr E)))) : False := by
  simp only [z_ex, z_call, z_br] at hs
  repeat' split at hs
  all_goals (first | (cases hs; done) | (simp at hs; done))
theorem z_nr31 {L pc a : Nat} {b : Int} {lv : List (Option zV)} {st : List zV} {S : zS} {r : Option zV} (hs : z_ex L pc lv st S 31 a b = some (.inr (.inr (.inl r)))) : False := by
  simp only [z_ex, z_call, z_br] at hs
  repeat' split at hs
  all_goals (first | (cases hs; done) | (simp at hs; done))
theorem z_nt31 {L pc a E : Nat} {b : Int} {lv : List (Option zV)} {st : List zV} {S : zS} (hs : z_ex L pc lv st S 31 a b = some (.inr (.inr (.inr E)))) : False := by
  simp only [z_ex, z_call, z_br] at hs
  repeat' split at hs
  all_goals (first | (cases hs; done) | (simp at hs; done))
theorem z_nr32 {L pc a : Nat} {b : Int} {lv : List (Option zV)} {st : List zV} {S : zS} {r : Option zV} (hs : z_ex L pc lv st S 32 a b = some (.inr (.inr (.inl r)))) : False := by
  simp only [z_ex, z_call, z_br] at hs
  repeat' split at hs
  all_goals (first | (cases hs; done) | (simp at hs; done))
theorem z_nt32 {L pc a E : Nat} {b : Int} {lv : List (Option zV)} {st : List zV} {S : zS} (hs : z_ex L pc lv st S 32 a b = some (.inr (.inr (.inr E)))) : False := by
  simp only [z_ex, z_call, z_br] at hs
  repeat' split at hs
  all_goals (first | (cases hs; done) | (simp at hs; done))
theorem z_nr33 {L pc a : Nat} {b : Int} {lv : List (Option zV)} {st : List zV} {S : zS} {r : Option zV} (hs : z_ex L pc lv st S 33 a b = some (.inr (.inr (.inl r)))) : False := by
  simp only [z_ex, z_call, z_br] at hs
  repeat' split at hs
  all_goals (first | (cases hs; done) | (simp at hs; done))
theorem z_nt33 {L pc a E : Nat} {b : Int} {lv : List (Option zV)} {st : List zV} {S : zS} (hs : z_ex L pc lv st S 33 a b = some (.inr (.inr (.inr E)))) : False := by
  simp only [z_ex, z_call, z_br] at hs
  repeat' split at hs
  all_goals (first | (cases hs; done) | (simp at hs; done))
theorem z_nr34 {L pc a : Nat} {b : Int} {lv : List (Option zV)} {st : List zV} {S : zS} {r : Option zV} (hs : z_ex L pc lv st S 34 a b = some (.inr (.inr (.inl r)))) : False := by
  simp only [z_ex, z_call, z_br] at hs
  repeat' split at hs
  all_goals (first | (cases hs; done) | (simp at hs; done))
theorem z_nt34 {L pc a E : Nat} {b : Int} {lv : List (Option zV)} {st : List zV} {S : zS} (hs : z_ex L pc lv st S 34 a b = some (.inr (.inr (.inr E)))) : False := by
  simp only [z_ex, z_call, z_br] at hs
  repeat' split at hs
  all_goals (first | (cases hs; done) | (simp at hs; done))
theorem z_nr35 {L pc a : Nat} {b : Int} {lv : List (Option zV)} {st : List zV} {S : zS} {r : Option zV} (hs : z_ex L pc lv st S 35 a b = some (.inr (.inr (.inl r)))) : False := by
  simp only [z_ex, z_call, z_br] at hs
  repeat' split at hs
  all_goals (first | (cases hs; done) | (simp at hs; done))
theorem z_nt35 {L pc a E : Nat} {b : Int} {lv : List (Option zV)} {st : List zV} {S : zS} (hs : z_ex L pc lv st S 35 a b = some (.inr (.inr (.inr E)))) : False := by
  simp only [z_ex, z_call, z_br] at hs
  repeat' split at hs
  all_goals (first | (cases hs; done) | (simp at hs; done))
theorem z_nr36 {L pc a : Nat} {b : Int} {lv : List (Option zV)} {st : List zV} {S : zS} {r : Option zV} (hs : z_ex L pc lv st S 36 a b = some (.inr (.inr (.inl r)))) : False := by
  simp only [z_ex] at hs
  split at hs
  · rcases z_sel_at hs with ⟨pre, t, suf, e1, e2, e3⟩ | ⟨e1, e3⟩ <;> cases e3
  · cases hs
theorem z_nt36 {L pc a : Nat} {b : Int} {lv : List (Option zV)} {st : List zV} {S : zS} {E : Nat} (hs : z_ex L pc lv st S 36 a b = some (.inr (.inr (.inr E)))) : False := by
  simp only [z_ex] at hs
  split at hs
  · rcases z_sel_at hs with ⟨pre, t, suf, e1, e2, e3⟩ | ⟨e1, e3⟩ <;> cases e3
  · cases hs
theorem z_nr37 {L pc a : Nat} {b : Int} {lv : List (Option zV)} {st : List zV} {S : zS} {r : Option zV} (hs : z_ex L pc lv st S 37 a b = some (.inr (.inr (.inl r)))) : False := by
  simp only [z_ex, z_call, z_br] at hs
  repeat' split at hs
  all_goals (first | (cases hs; done) | (simp at hs; done))
theorem z_nt37 {L pc a E : Nat} {b : Int} {lv : List (Option zV)} {st : List zV} {S : zS} (hs : z_ex L pc lv st S 37 a b = some (.inr (.inr (.inr E)))) : False := by
  simp only [z_ex, z_call, z_br] at hs
  repeat' split at hs
  all_goals (first | (cases hs; done) | (simp at hs; done))
theorem z_nr38 {L pc a : Nat} {b : Int} {lv : List (Option zV)} {st : List zV} {S : zS} {r : Option zV} (hs : z_ex L pc lv st S 38 a b = some (.inr (.inr (.inl r)))) : False := by
  simp only [z_ex, z_call, z_br] at hs
  repeat' split at hs
  all_goals (first | (cases hs; done) | (simp at hs; done))
theorem z_nt38 {L pc a E : Nat} {b : Int} {lv : List (Option zV)} {st : List zV} {S : zS} (hs : z_ex L pc lv st S 38 a b = some (.inr (.inr (.inr E)))) : False := by
  simp only [z_ex, z_call, z_br] at hs
  repeat' split at hs
  all_goals (first | (cases hs; done) | (simp at hs; done))
theorem z_nr39 {L pc a : Nat} {b : Int} {lv : List (Option zV)} {st : List zV} {S : zS} {r : Option zV} (hs : z_ex L pc lv st S 39 a b = some (.inr (.inr (.inl r)))) : False := by
  simp only [z_ex, z_call, z_br] at hs
  repeat' split at hs
  all_goals (first | (cases hs; done) | (simp at hs; done))
theorem z_nt39 {L pc a E : Nat} {b : Int} {lv : List (Option zV)} {st : List zV} {S : zS} (hs : z_ex L pc lv st S 39 a b = some (.inr (.inr (.inr E)))) : False := by
  simp only [z_ex, z_call, z_br] at hs
  repeat' split at hs
  all_goals (first | (cases hs; done) | (simp at hs; done))
theorem z_nc0 {L pc a k : Nat} {b : Int} {lv : List (Option zV)} {st as : List zV} {S : zS} {c2 : zCfg} (hs : z_ex L pc lv st S 0 a b = some (.inr (.inl (k, as, c2)))) : False := by
  simp only [z_ex, z_br] at hs
  repeat' split at hs
  all_goals (first | (cases hs; done) | (simp at hs; done))
theorem z_nc1 {L pc a k : Nat} {b : Int} {lv : List (Option zV)} {st as : List zV} {S : zS} {c2 : zCfg} (hs : z_ex L pc lv st S 1 a b = some (.inr (.inl (k, as, c2)))) : False := by
  simp only [z_ex, z_br] at hs
  repeat' split at hs
  all_goals (first | (cases hs; done) | (simp at hs; done))
theorem z_nc2 {L pc a k : Nat} {b : Int} {lv : List (Option zV)} {st as : List zV} {S : zS} {c2 : zCfg} (hs : z_ex L pc lv st S 2 a b = some (.inr (.inl (k, as, c2)))) : False := by
  simp only [z_ex, z_br] at hs
  repeat' split at hs
  all_goals (first | (cases hs; done) | (simp at hs; done))
theorem z_nc3 {L pc a k : Nat} {b : Int} {lv : List (Option zV)} {st as : List zV} {S : zS} {c2 : zCfg} (hs : z_ex L pc lv st S 3 a b = some (.inr (.inl (k, as, c2)))) : False := by
  simp only [z_ex, z_br] at hs
  repeat' split at hs
  all_goals (first | (cases hs; done) | (simp at hs; done))
theorem z_nc4 {L pc a k : Nat} {b : Int} {lv : List (Option zV)} {st as : List zV} {S : zS} {c2 : zCfg} (hs : z_ex L pc lv st S 4 a b = some (.inr (.inl (k, as, c2)))) : False := by
  simp only [z_ex, z_br] at hs
  repeat' split at hs
  all_goals (first | (cases hs; done) | (simp at hs; done))
theorem z_nc5 {L pc a k : Nat} {b : Int} {lv : List (Option zV)} {st as : List zV} {S : zS} {c2 : zCfg} (hs : z_ex L pc lv st S 5 a b = some (.inr (.inl (k, as, c2)))) : False := by
  simp only [z_ex, z_br] at hs
  repeat' split at hs
  all_goals (first | (cases hs; done) | (simp at hs; done))
theorem z_nc6 {L pc a k : Nat} {b : Int} {lv : List (Option zV)} {st as : List zV} {S : zS} {c2 : zCfg} (hs : z_ex L pc lv st S 6 a b = some (.inr (.inl (k, as, c2)))) : False := by
  simp only [z_ex, z_br] at hs
  repeat' split at hs
  all_goals (first | (cases hs; done) | (simp at hs; done))
theorem z_nc7 {L pc a k : Nat} {b : Int} {lv : List (Option zV)} {st as : List zV} {S : zS} {c2 : zCfg} (hs : z_ex L pc lv st S 7 a b = some (.inr (.inl (k, as, c2)))) : False := by
  simp only [z_ex, z_br] at hs
  repeat' split at hs
  all_goals (first | (cases hs; done) | (simp at hs; done))
theorem z_nc8 {L pc a k : Nat} {b : Int} {lv : List (Option zV)} {st as : List zV} {S : zS} {c2 : zCfg} (hs : z_ex L pc lv st S 8 a b = some (.inr (.inl (k, as, c2)))) : False := by
  simp only [z_ex, z_br] at hs
  repeat' split at hs
  all_goals (first | (cases hs; done) | (simp at hs; done))
theorem z_nc9 {L pc a k : Nat} {b : Int} {lv : List (Option zV)} {st as : List zV} {S : zS} {c2 : zCfg} (hs : z_ex L pc lv st S 9 a b = some (.inr (.inl (k, as, c2)))) : False := by
  simp only [z_ex, z_br] at hs
  repeat' split at hs
  all_goals (first | (cases hs; done) | (simp at hs; done))
theorem z_nc10 {L pc a k : Nat} {b : Int} {lv : List (Option zV)} {st as : List zV} {S : zS} {c2 : zCfg} (hs : z_ex L pc lv st S 10 a b = some (.inr (.inl (k, as, c2)))) : False := by
  simp only [z_ex, z_br] at hs
  repeat' split at hs
  all_goals (first | (cases hs; done) | (simp at hs; done))
theorem z_nc11 {L pc a k : Nat} {b : Int} {lv : List (Option zV)} {st as : List zV} {S : zS} {c2 : zCfg} (hs : z_ex L pc lv st S 11 a b = some (.inr (.inl (k, as, c2)))) : False := by
  simp only [z_ex, z_br] at hs
  repeat' split at hs
  all_goals (first | (cases hs; done) | (simp at hs; done))
theorem z_nc12 {L pc a k : Nat} {b : Int} {lv : List (Option zV)} {st as : List zV} {S : zS} {c2 : zCfg} (hs : z_ex L pc lv st S 12 a b = some (.inr (.inl (k, as, c2)))) : False := by
  simp only [z_ex, z_br] at hs
  repeat' split at hs
  all_goals (first | (cases hs; done) | (simp at hs; done))
theorem z_nc13 {L pc a k : Nat} {b : Int} {lv : List (Option zV)} {st as : List zV} {S : zS} {c2 : zCfg} (hs : z_ex L pc lv st S 13 a b = some (.inr (.inl (k, as, c2)))) : False := by
  simp only [z_ex, z_br] at hs
  repeat' split at hs
  all_goals (first | (cases hs; done) | (simp at hs; done))
theorem z_nc14 {L pc a k : Nat} {b : Int} {lv : List (Option zV)} {st as : List zV} {S : zS} {c2 : zCfg} (hs : z_ex L pc lv st S 14 a b = some (.inr (.inl (k, as, c2)))) : False := by
  simp only [z_ex, z_br] at hs
  repeat' split at hs
  all_goals (first | (cases hs; done) | (simp at hs; done))
theorem z_nc15 {L pc a k : Nat} {b : Int} {lv : List (Option zV)} {st as : List zV} {S : zS} {c2 : zCfg} (hs : z_ex L pc lv st S 15 a b = some (.inr (.inl (k, as, c2)))) : False := by
  simp only [z_ex, z_br] at hs
  repeat' split at hs
  all_goals (first | (cases hs; done) | (simp at hs; done))
theorem z_nc16 {L pc a k : Nat} {b : Int} {lv : List (Option zV)} {st as : List zV} {S : zS} {c2 : zCfg} (hs : z_ex L pc lv st S 16 a b = some (.inr (.inl (k, as, c2)))) : False := by
  simp only [z_ex, z_br] at hs
  repeat' split at hs
  all_goals (first | (cases hs; done) | (simp at hs; done))
theorem z_nc17 {L pc a k : Nat} {b : Int} {lv : List (Option zV)} {st as : List zV} {S : zS} {c2 : zCfg} (hs : z_ex L pc lv st S 17 a b = some (.inr (.inl (k, as, c2)))) : False := by
  simp only [z_ex, z_br] at hs
  repeat' split at hs
  all_goals (first | (cases hs; done) | (simp at hs; done))
theorem z_nc18 {L pc a k : Nat} {b : Int} {lv : List (Option zV)} {st as : List zV} {S : zS} {c2 : zCfg} (hs : z_ex L pc lv st S 18 a b = some (.inr (.inl (k, as, c2)))) : False := by
  simp only [z_ex, z_br] at hs
  repeat' split at hs
  all_goals (first | (cases hs; done) | (simp at hs; done))
theorem z_nc19 {L pc a k : Nat} {b : Int} {lv : List (Option zV)} {st as : List zV} {S : zS} {c2 : zCfg} (hs : z_ex L pc lv st S 19 a b = some (.inr (.inl (k, as, c2)))) : False := by
  simp only [z_ex, z_br] at hs
  repeat' split at hs
  all_goals (first | (cases hs; done) | (simp at hs; done))
theorem z_nc20 {L pc a k : Nat} {b : Int} {lv : List (Option zV)} {st as : List zV} {S : zS} {c2 : zCfg} (hs : z_ex L pc lv st S 20 a b = some (.inr (.inl (k, as, c2)))) : False := by
  simp only [z_ex] at hs
  split at hs
  · rcases z_sel_at hs with ⟨pre, t, suf, e1, e2, e3⟩ | ⟨e1, e3⟩ <;> cases e3
  · cases hs
theorem z_nc23 {L pc a k : Nat} {b : Int} {lv : List (Option zV)} {st as : List zV} {S : zS} {c2 : zCfg} (hs : z_ex L pc lv st S 23 a b = some (.inr (.inl (k, as, c2)))) : False := by
  simp only [z_ex, z_br] at hs
  repeat' split at hs
  all_goals (first | (cases hs; done) | (simp at hs; done))
theorem z_nc24 {L pc a k : Nat} {b : Int} {lv : List (Option zV)} {st as : List zV} {S : zS} {c2 : zCfg} (hs : z_ex L pc lv st S 24 a b = some (.inr (.inl (k, as, c2)))) : False := by
  simp only [z_ex, z_br] at hs
  repeat' split at hs
  all_goals (first | (cases hs; done) | (simp at hs; done))
theorem z_nc25 {L pc a k : Nat} {b : Int} {lv : List (Option zV)} {st as : List zV} {S : zS} {c2 : zCfg} (hs : z_ex L pc lv st S 25 a b = some (.inr (.inl (k, as, c2)))) : False := by
  simp only [z_ex, z_br] at hs
  repeat' split at hs
  all_goals (first | (cases hs; done) | (simp at hs; done))
theorem z_nc26 {L pc a k : Nat} {b : Int} {lv : List (Option zV)} {st as : List zV} {S : zS} {c2 : zCfg} (hs : z_ex L pc lv st S 26 a b = some (.inr (.inl (k, as, c2)))) : False := by
  simp only [z_ex, z_br] at hs
  repeat' split at hs
  all_goals (first | (cases hs; done) | (simp at hs; done))
theorem z_nc27 {L pc a k : Nat} {b : Int} {lv : List (Option zV)} {st as : List zV} {S : zS} {c2 : zCfg} (hs : z_ex L pc lv st S 27 a b = some (.inr (.inl (k, as, c2)))) : False := by
  simp only [z_ex, z_br] at hs
  repeat' split at hs
  all_goals (first | (cases hs; done) | (simp at hs; done))
theorem z_nc28 {L pc a k : Nat} {b : Int} {lv : List (Option zV)} {st as : List zV} {S : zS} {c2 : zCfg} (hs : z_ex L pc lv st S 28 a b = some (.inr (.inl (k, as, c2)))) : False := by
  simp only [z_ex, z_br] at hs
  repeat' split at hs
  all_goals (first | (cases hs; done) | (simp at hs; done))
theorem z_nc29 {L pc a k : Nat} {b : Int} {lv : List (Option zV)} {st as : List zV} {S : zS} {c2 : zCfg} (hs : z_ex L pc lv st S 29 a b = some (.inr (.inl (k, as, c2)))) : False := by
  simp only [z_ex, z_br] at hs
  repeat' split at hs
  all_goals (first | (cases hs; done) | (simp at hs; done))
theorem z_nc30 {L pc a k : Nat} {b : Int} {lv : List (Option zV)} {st as : List zV} {S : zS} {c2 : zCfg} (hs : z_ex L pc lv st S 30 a b = some (.inr (.inl (k, as, c2)))) : False := by
  simp only [z_ex, z_br] at hs
  repeat' split at hs
  all_goals (first | (cases hs; done) | (simp at hs; done))
theorem z_nc31 {L pc a k : Nat} {b : Int} {lv : List (Option zV)} {st as : List zV} {S : zS} {c2 : zCfg} (hs : z_ex L pc lv st S 31 a b = some (.inr (.inl (k, as, c2)))) : False := by
  simp only [z_ex, z_br] at hs
  repeat' split at hs
  all_goals (first | (cases hs; done) | (simp at hs; done))
theorem z_nc33 {L pc a k : Nat} {b : Int} {lv : List (Option zV)} {st as : List zV} {S : zS} {c2 : zCfg} (hs : z_ex L pc lv st S 33 a b = some (.inr (.inl (k, as, c2)))) : False := by
  simp only [z_ex, z_br] at hs
  repeat' split at hs
  all_goals (first | (cases hs; done) | (simp at hs; done))
theorem z_nc34 {L pc a k : Nat} {b : Int} {lv : List (Option zV)} {st as : List zV} {S : zS} {c2 : zCfg} (hs : z_ex L pc lv st S 34 a b = some (.inr (.inl (k, as, c2)))) : False := by
  simp only [z_ex, z_br] at hs
  repeat' split at hs
  all_goals (first | (cases hs; done) | (simp at hs; done))
theorem z_nc36 {L pc a k : Nat} {b : Int} {lv : List (Option zV)} {st as : List zV} {S : zS} {c2 : zCfg} (hs : z_ex L pc lv st S 36 a b = some (.inr (.inl (k, as, c2)))) : False := by
  simp only [z_ex] at hs
  split at hs
  · rcases z_sel_at hs with ⟨pre, t, suf, e1, e2, e3⟩ | ⟨e1, e3⟩ <;> cases e3
  · cases hs
theorem z_nc37 {L pc a k : Nat} {b : Int} {lv : List (Option zV)} {st as : List zV} {S : zS} {c2 : zCfg} (hs : z_ex L pc lv st S 37 a b = some (.inr (.inl (k, as, c2)))) : False := by
  simp only [z_ex, z_br] at hs
  repeat' split at hs
  all_goals (first | (cases hs; done) | (simp at hs; done))
theorem z_nc38 {L pc a k : Nat} {b : Int} {lv : List (Option zV)} {st as : List zV} {S : zS} {c2 : zCfg} (hs : z_ex L pc lv st S 38 a b = some (.inr (.inl (k, as, c2)))) : False := by
  simp only [z_ex, z_br] at hs
  repeat' split at hs
  all_goals (first | (cases hs; done) | (simp at hs; done))
theorem z_nc39 {L pc a k : Nat} {b : Int} {lv : List (Option zV)} {st as : List zV} {S : zS} {c2 : zCfg} (hs : z_ex L pc lv st S 39 a b = some (.inr (.inl (k, as, c2)))) : False := by
  simp only [z_ex, z_br] at hs
  repeat' split at hs
  all_goals (first | (cases hs; done) | (simp at hs; done))
theorem z_ret_inv {x : zI} {L pc mi : Nat} {lv : List (Option zV)} {st : List zV} {S : zS} {r : Option zV} (hok : z_okb mi pc x = true) (hs : z_ex L pc lv st S x.1 x.2.1 x.2.2.1 = some (.inr (.inr (.inl r)))) : z_isret mi (z_pc mi pc) r ∧ st = r.toList := by
  obtain ⟨op, a, b, ix, kw⟩ := x
  dsimp only at hs
  match op, hok, hs with
  | 0, hok, hs => exact (z_nr0 hs).elim
  | 1, hok, hs => exact (z_nr1 hs).elim
  | 2, hok, hs => exact (z_nr2 hs).elim
  | 3, hok, hs => exact (z_nr3 hs).elim
  | 4, hok, hs => exact (z_nr4 hs).elim
  | 5, hok, hs => exact (z_nr5 hs).elim
  | 6, hok, hs => exact (z_nr6 hs).elim
  | 7, hok, hs => exact (z_nr7 hs).elim
  | 8, hok, hs => exact (z_nr8 hs).elim
  | 9, hok, hs => exact (z_nr9 hs).elim
  | 10, hok, hs => exact (z_nr10 hs).elim
  | 11, hok, hs => exact (z_nr11 hs).elim
  | 12, hok, hs => exact (z_nr12 hs).elim
  | 13, hok, hs => exact (z_nr13 hs).elim
  | 14, hok, hs => exact (z_nr14 hs).elim
  | 15, hok, hs => exact (z_nr15 hs).elim
  | 16, hok, hs => exact (z_nr16 hs).elim
  | 17, hok, hs => exact (z_nr17 hs).elim
  | 18, hok, hs => exact (z_nr18 hs).elim
  | 19, hok, hs => exact (z_nr19 hs).elim
  | 20, hok, hs => exact (z_nr20 hs).elim
  | 21, hok, hs => exact (z_nr21 hs).elim
  | 22, hok, hs => exact (z_nr22 hs).elim
  | 23, hok, hs => exact (z_nr23 hs).elim
  | 24, hok, hs => exact (z_nr24 hs).elim
  | 25, hok, hs =>
    simp only [z_ex] at hs
    simp only [z_okb, Bool.and_eq_true, decide_eq_true_eq] at hok
    split at hs
    · next y => cases hs; exact ⟨⟨hok.1, Or.inl hok.2⟩, rfl⟩
    · cases hs
  | 26, hok, hs =>
    simp only [z_ex] at hs
    simp only [z_okb, Bool.and_eq_true, decide_eq_true_eq] at hok
    split at hs
    · next y =>
      split at hs
      · next hy => cases hs; exact ⟨⟨hok.1, Or.inr ⟨hok.2, hy⟩⟩, rfl⟩
      · cases hs
    · cases hs
  | 27, hok, hs =>
    simp only [z_ex] at hs
    simp only [z_okb, Bool.and_eq_true, decide_eq_true_eq] at hok
    split at hs
    · cases hs; exact ⟨⟨hok.1, hok.2⟩, rfl⟩
    · cases hs
  | 28, hok, hs =>
    simp only [z_ex] at hs
    simp only [z_okb, Bool.and_eq_true, decide_eq_true_eq] at hok
    split at hs
    · next k =>
      cases hs
      refine ⟨⟨hok.1, ?_⟩, rfl⟩
      have h2 := hok.2
      split at h2
      · next n hn => exact ⟨n, hn⟩
      · cases h2
    · cases hs
  | 29, hok, hs => exact (z_nr29 hs).elim
  | 30, hok, hs => exact (z_nr30 hs).elim
  | 31, hok, hs => exact (z_nr31 hs).elim
  | 32, hok, hs => exact (z_nr32 hs).elim
  | 33, hok, hs => exact (z_nr33 hs).elim
  | 34, hok, hs => exact (z_nr34 hs).elim
  | 35, hok, hs => exact (z_nr35 hs).elim
  | 36, hok, hs => exact (z_nr36 hs).elim
  | 37, hok, hs => exact (z_nr37 hs).elim
  | 38, hok, hs => exact (z_nr38 hs).elim
  | 39, hok, hs => exact (z_nr39 hs).elim
  | n + 40, hok, hs => cases hok
theorem z_thr_inv {x : zI} {L pc mi E : Nat} {lv : List (Option zV)} {st : List zV} {S : zS} (hok : z_okb mi pc x = true) (hs : z_ex L pc lv st S x.1 x.2.1 x.2.2.1 = some (.inr (.inr (.inr E)))) : ∃ (b : Int) (ix kw : Nat) (v : Int), z_okb mi pc (29, E, v, ix, kw) = true ∧ st = [] ∧ E < 3 ∧ (z_tb mi).isEmpty = true := by
  obtain ⟨op, a, b, ix, kw⟩ := x
  dsimp only at hs
  match op, hok, hs with
  | 0, hok, hs => exact (z_nt0 hs).elim
  | 1, hok, hs => exact (z_nt1 hs).elim
  | 2, hok, hs => exact (z_nt2 hs).elim
  | 3, hok, hs => exact (z_nt3 hs).elim
  | 4, hok, hs => exact (z_nt4 hs).elim
  | 5, hok, hs => exact (z_nt5 hs).elim
  | 6, hok, hs => exact (z_nt6 hs).elim
  | 7, hok, hs => exact (z_nt7 hs).elim
  | 8, hok, hs => exact (z_nt8 hs).elim
  | 9, hok, hs => exact (z_nt9 hs).elim
  | 10, hok, hs => exact (z_nt10 hs).elim
  | 11, hok, hs => exact (z_nt11 hs).elim
  | 12, hok, hs => exact (z_nt12 hs).elim
  | 13, hok, hs => exact (z_nt13 hs).elim
  | 14, hok, hs => exact (z_nt14 hs).elim
  | 15, hok, hs => exact (z_nt15 hs).elim
  | 16, hok, hs => exact (z_nt16 hs).elim
  | 17, hok, hs => exact (z_nt17 hs).elim
  | 18, hok, hs => exact (z_nt18 hs).elim
  | 19, hok, hs => exact (z_nt19 hs).elim
  | 20, hok, hs => exact (z_nt20 hs).elim
  | 21, hok, hs => exact (z_nt21 hs).elim
  | 22, hok, hs => exact (z_nt22 hs).elim
  | 23, hok, hs => exact (z_nt23 hs).elim
  | 24, hok, hs => exact (z_nt24 hs).elim
  | 25, hok, hs => exact (z_nt25 hs).elim
  | 26, hok, hs => exact (z_nt26 hs).elim
  | 27, hok, hs => exact (z_nt27 hs).elim
  | 28, hok, hs => exact (z_nt28 hs).elim
  | 29, hok, hs =>
    simp only [z_ex] at hs
    split at hs
    · cases hs
      refine ⟨b, ix, kw, b, hok, rfl, ?_⟩
      simp only [z_okb, Bool.and_eq_true, decide_eq_true_eq] at hok
      exact ⟨hok.2.1, hok.1.2⟩
    · cases hs
  | 30, hok, hs => exact (z_nt30 hs).elim
  | 31, hok, hs => exact (z_nt31 hs).elim
  | 32, hok, hs => exact (z_nt32 hs).elim
  | 33, hok, hs => exact (z_nt33 hs).elim
  | 34, hok, hs => exact (z_nt34 hs).elim
  | 35, hok, hs => exact (z_nt35 hs).elim
  | 36, hok, hs => exact (z_nt36 hs).elim
  | 37, hok, hs => exact (z_nt37 hs).elim
  | 38, hok, hs => exact (z_nt38 hs).elim
  | 39, hok, hs => exact (z_nt39 hs).elim
  | n + 40, hok, hs => cases hok
/-! soundness: by induction on the steps -/
theorem z_take_split {st : List zV} {n : Nat} {v : zV} {r : List zV} (h : st.drop n = v :: r) : st = st.take n ++ v :: r ∧ st.drop (n + 1) = r ∧ st.take (n + 1) = st.take n ++ [v] ∧ (st.take n).length = n := by
  have hl : n < st.length := by
    rcases Nat.lt_or_ge n st.length with h1 | h1
    · exact h1
    · rw [List.drop_eq_nil_of_le h1] at h; cases h
  refine ⟨by rw [← h]; exact (List.take_append_drop n st).symm, ?_, ?_, by simp; omega⟩
  · rw [← List.drop_drop, h]; rfl
  · rw [List.take_succ_eq_append_getElem hl]
    have : st[n] = v := by
      have h2 := List.drop_eq_getElem_cons hl
      rw [h] at h2
      exact (List.cons.inj h2).1.symm
    rw [this]
theorem z_opt_list (q : Nat → Nat) (r : Option zV) (rest : List zV) : (r.map (z_cv q)).toList ++ rest.map (z_cv q) = (r.toList ++ rest).map (z_cv q) := by
  cases r <;> simp
section ZMN
variable {l : Launch} {dC : Nat → ClassId} {dI : Nat → Nat → Nat} {cI cZ cJ : ClassId} {q : Nat → Nat} {A : Nat → Prop} {L : Nat} {X : Nat → Int32}
/-- what a virtual call takes from the stack -/
theorem z_invV {pc a : Nat} {b : Int} {lv : List (Option zV)} {st : List zV} {S : zS} {k : Nat} {as : List zV} {c2 : zCfg} (h : (match st.drop (z_na a) with
    | .inr (.inr k) :: _ => match z_lay[k]? with
      | some (.inr (ci, _)) => if ci = b.toNat then z_call a (z_na a + 1) pc lv st S else none
      | _ => none
    | _ => none) = some (.inr (.inl (k, as, c2)))) : ∃ (j : Nat) (fk : List (Option Nat)) (rest args : List zV), k = a ∧ as = .inr (.inr j) :: args ∧ st = args.reverse ++ .inr (.inr j) :: rest ∧ c2 = (pc + 1, lv, rest, S) ∧ z_lay[j]? = some (.inr (b.toNat, fk)) ∧ z_cats rest ≤ 8 ∧ args.length = z_na a ∧ as.all (fun v => z_cat v == 1) = true := by
  split at h
  · next j r hd =>
    split at h
    · next ci fk hlay =>
      split at h
      · next hci =>
        subst hci
        obtain ⟨e1, e2, e3, e4⟩ := z_take_split hd
        unfold z_call at h
        split at h
        · next hc =>
          rw [e2, e3] at hc
          rw [e2, e3] at h
          cases h
          refine ⟨j, fk, r, (st.take (z_na a)).reverse, rfl, by simp, by rw [List.reverse_reverse]; exact e1, rfl, hlay, hc.1, by rw [List.length_reverse]; exact e4, ?_⟩
          rw [List.all_reverse]; exact hc.2.2
        · cases h
      · cases h
    · cases h
  · cases h
theorem z_invS {pc a n : Nat} {lv : List (Option zV)} {st : List zV} {S : zS} {k : Nat} {as : List zV} {c2 : zCfg} (h : z_call a n pc lv st S = some (.inr (.inl (k, as, c2)))) : ∃ (rest : List zV), k = a ∧ st = as.reverse ++ rest ∧ c2 = (pc + 1, lv, rest, S) ∧ z_cats rest ≤ 8 ∧ as.length = n ∧ as.all (fun v => z_cat v == 1) = true := by
  unfold z_call at h
  split at h
  · next hc =>
    cases h
    refine ⟨st.drop n, rfl, by rw [List.reverse_reverse]; exact (List.take_append_drop n st).symm, rfl, hc.1, ?_, ?_⟩
    · rw [List.length_reverse, List.length_take]; omega
    · rw [List.all_reverse]; exact hc.2.2
  · cases h
/-- what holds of a run of n steps at the most -/
def z_Ok (l : Launch) (dC : Nat → ClassId) (dI : Nat → Nat → Nat) (cI cZ cJ : ClassId) (q : Nat → Nat) (A : Nat → Prop) (L : Nat) (X : Nat → Int32) (n : Nat) : Prop := ∀ (mi : Nat) (cf : zCfg) (o : zRes), z_run L n mi cf = some o → (∀ E, o.1 = .inr E → E < 3) ∧ z_BC l dC dI cI cZ cJ q A L X mi cf o
variable {p : Program} {e : Env} {R : Room} {s : State} {m : MethodId} {args : Array Value} {below : List Frame} {meth : Method} {c : Code} {Q : State → Prop} {mi : Nat} {cells slots : Nat}
/-- behind any call: the callee's run, then what is left -/
theorem z_aft_inv {n : Nat} {c2 : zCfg} {r1 : Option zRes} {o : zRes} (h : z_aft mi (z_run L n) c2 r1 = some o) : ∃ o1, r1 = some o1 ∧ ((∃ r o2, o1.1 = .inl r ∧ z_run L n mi (c2.1, c2.2.1, r.toList ++ c2.2.2.1, o1.2.1) = some o2 ∧ o = (o2.1, o2.2.1, o1.2.2 + o2.2.2)) ∨ (∃ E v, o1.1 = .inr E ∧ z_hd (z_th mi) E = some v ∧ o = (.inl (some (.inl v)), o1.2.1, o1.2.2)) ∨ (∃ E, o1.1 = .inr E ∧ (z_th mi).isEmpty = true ∧ o = (.inr E, o1.2.1, o1.2.2))) := by
  rcases r1 with _ | ⟨r | E, S1, e1⟩
  · cases h
  · refine ⟨_, rfl, Or.inl ?_⟩
    simp only [z_aft] at h
    rcases h2 : z_run L n mi (c2.1, c2.2.1, r.toList ++ c2.2.2.1, S1) with _ | ⟨o2, S2, e2⟩
    · rw [h2] at h; cases h
    · rw [h2] at h; cases h; exact ⟨r, _, rfl, h2, rfl⟩
  · refine ⟨_, rfl, Or.inr ?_⟩
    simp only [z_aft] at h
    rcases h2 : z_hd (z_th mi) E with _ | v
    · rw [h2] at h
      dsimp only at h
      split at h
      · next ht => cases h; exact Or.inr ⟨E, rfl, ht, rfl⟩
      · cases h
    · rw [h2] at h; cases h; exact Or.inl ⟨E, v, rfl, h2, rfl⟩

set_option maxHeartbeats 4000000 in
theorem z_callstep {n pc : Nat} {lv : List (Option zV)} {st : List zV} {S : zS} {x : zI} {k : Nat} {as : List zV} {c2 : zCfg} {o o1 : zRes} {C0 S0 : Nat} (hG : z_Good) (hA : z_Ap q A) (htr : l.stackTraces = false) (hok : z_okb mi pc x = true) (hs : z_ex L pc lv st S x.1 x.2.1 x.2.2.1 = some (.inr (.inl (k, as, c2))))
    (hcase : (∃ r o2, o1.1 = .inl r ∧ z_run L n mi (c2.1, c2.2.1, r.toList ++ c2.2.2.1, o1.2.1) = some o2 ∧ o = (o2.1, o2.2.1, o1.2.2 + o2.2.2)) ∨ (∃ E v, o1.1 = .inr E ∧ z_hd (z_th mi) E = some v ∧ o = (.inl (some (.inl v)), o1.2.1, o1.2.2)) ∨ (∃ E, o1.1 = .inr E ∧ (z_th mi).isEmpty = true ∧ o = (.inr E, o1.2.1, o1.2.2)))
    (j1 : ∀ E, o1.1 = .inr E → E < 3) (j2 : z_BC l dC dI cI cZ cJ q A L X k (0, z_ent k as, [], c2.2.2.2) o1) (ih : z_Ok l dC dI cI cZ cJ q A L X n) (hC : z_Cx l mi p R s m args c) (hF : z_Fx dC dI cI cZ cJ q A L X s s.heap) (htab : ¬ (z_tb mi).isEmpty = true → c.exceptionTable.toList = tableOf (z_tb mi)) (hc1 : cells + o.2.2 ≤ C0) (hc2 : C0 ≤ R.cells) (hs1 : slots + 6 * o.2.2 ≤ S0) (hs2 : S0 ≤ R.slots) (hE : z_End dC dI cI cZ cJ q A X p l e R s m args below meth c Q mi C0 S0 o) :
    ∀ H locs ls, z_Rl dC dI cI cZ cJ q A X s mi (pc, lv, st, S) H locs ls → W p l e R s m args below meth c H locs cells slots Q (F0 m (z_pc mi pc) ls (st.map (z_cv q))) := by
  intro H locs ls hR
  obtain ⟨hP, hX, hS, hl, hlen⟩ := hR
  dsimp only at hP hX hS hl hlen
  obtain ⟨op, a, b, ix, kw⟩ := x
  dsimp only at hs
  match op, hok, hs with
  | 0, hok, hs => exact (z_nc0 hs).elim
  | 1, hok, hs => exact (z_nc1 hs).elim
  | 2, hok, hs => exact (z_nc2 hs).elim
  | 3, hok, hs => exact (z_nc3 hs).elim
  | 4, hok, hs => exact (z_nc4 hs).elim
  | 5, hok, hs => exact (z_nc5 hs).elim
  | 6, hok, hs => exact (z_nc6 hs).elim
  | 7, hok, hs => exact (z_nc7 hs).elim
  | 8, hok, hs => exact (z_nc8 hs).elim
  | 9, hok, hs => exact (z_nc9 hs).elim
  | 10, hok, hs => exact (z_nc10 hs).elim
  | 11, hok, hs => exact (z_nc11 hs).elim
  | 12, hok, hs => exact (z_nc12 hs).elim
  | 13, hok, hs => exact (z_nc13 hs).elim
  | 14, hok, hs => exact (z_nc14 hs).elim
  | 15, hok, hs => exact (z_nc15 hs).elim
  | 16, hok, hs => exact (z_nc16 hs).elim
  | 17, hok, hs => exact (z_nc17 hs).elim
  | 18, hok, hs => exact (z_nc18 hs).elim
  | 19, hok, hs => exact (z_nc19 hs).elim
  | 20, hok, hs => exact (z_nc20 hs).elim
  | 21, hok, hs =>
    simp only [z_ex] at hs
    obtain ⟨j, fk, rest, ag, rfl, rfl, rfl, rfl, hlay, hcat, hna, hall⟩ := z_invV hs
    simp only [z_okb, z_d, Bool.and_eq_true, decide_eq_true_eq, Bool.not_eq_true'] at hok
    obtain ⟨⟨⟨⟨⟨⟨⟨⟨hd, hn⟩, hw⟩, hcal⟩, hst⟩, hth⟩, htb⟩, htba⟩, hcl⟩ := hok
    have hlt9 : k < 372 := by
      have h9 := hcal
      simp only [z_cal, Bool.and_eq_true, decide_eq_true_eq] at h9
      exact h9.1.1
    obtain ⟨hmok, hpc0⟩ := hG.2 k hlt9
    have hml9 := (z_mok_un hmok).2.2.2.2.2.2.2.2
    dsimp only at hcase j2
    have hasl : (.inr (.inr j) :: ag : List zV).length ≤ z_ml k := by rw [List.length_cons, hna]; omega
    have hstk : (ag.reverse ++ .inr (.inr j) :: rest).map (z_cv q) = (ag.map (z_cv q)).reverse ++ .ref (q j) :: rest.map (z_cv q) := by rw [List.map_append, List.map_reverse]; rfl
    rw [hstk]
    obtain ⟨q1, S1, e1⟩ := o1
    dsimp only at hcase j1 j2
    rcases hcase with ⟨r, o2, a1, a2, a3⟩ | ⟨E, v, a1, a2, a3⟩ | ⟨E, a1, a2, a3⟩
    · subst a1
      subst a3
      have hM := z_toMet (n := e1) j2 htr hA hmok hall hasl hpc0
      have hc19 : cells + (e1 + o2.2.2) ≤ C0 := hc1
      have hs19 : slots + 6 * (e1 + o2.2.2) ≤ S0 := hs1
      refine z_back (z_cV (pc := z_pc mi pc) (ls := ls) (cells := cells) (slots := slots) hC hF hA hd (z_w_in hw) hlay hcl hcal hmok htba hst hna hcat hM hP hX hS hl (by omega) (by omega)) hS (fun H1 locs1 hP1 hX1 hS1 => ?_)
      have h9 := (ih mi _ o2 a2).2 p e R s m args below meth c Q C0 S0 (cells + e1) (slots + 6 * e1) hC hF htab (by omega) hc2 (by omega) hs2 hE H1 locs1 ls ⟨hP1, hX1, hS1, hl, hlen⟩
      dsimp only at h9
      rw [hn] at h9
      rw [z_opt_list]
      exact h9
    · exfalso
      rw [List.isEmpty_iff.mp hth] at a2
      cases a2
    · subst a1
      subst a3
      have hM := z_toMetX (n := e1) (j1 E rfl) j2 htr hA hmok hall hasl hpc0
      have hc19 : cells + e1 ≤ C0 := hc1
      have hs19 : slots + 6 * e1 ≤ S0 := hs1
      refine z_backX (a := #[]) (z_cVX (pc := z_pc mi pc) (ls := ls) (cells := cells) (slots := slots) hC hF hA hd (z_w_in hw) hlay hcl hcal hmok htba hst hna hcat hM hP hX hS hl (by omega) (by omega)) hS (fun H1 locs1 q9 ce hP1 hX1 hS1 hce hcv hcl9 => ?_)
      exact (hE htb).1 _ ls _ H1 locs1 (cells + e1) (slots + 6 * e1) q9 ce hP1 hX1 hS1 hce hcv hcl9 hc19 hs19
  | 22, hok, hs =>
    simp only [z_ex] at hs
    obtain ⟨rest, rfl, rfl, rfl, hcat, hna, hall⟩ := z_invS hs
    simp only [z_okb, z_d, Bool.and_eq_true, decide_eq_true_eq, Bool.not_eq_true'] at hok
    obtain ⟨⟨⟨⟨⟨⟨⟨hd, hn⟩, hw⟩, hcal⟩, hst⟩, hth⟩, htb⟩, htba⟩ := hok
    have hlt9 : k < 372 := by
      have h9 := hcal
      simp only [z_cal, Bool.and_eq_true, decide_eq_true_eq] at h9
      exact h9.1.1
    obtain ⟨hmok, hpc0⟩ := hG.2 k hlt9
    have hml9 := (z_mok_un hmok).2.2.2.2.2.2.2.2
    dsimp only at hcase j2
    have hasl : as.length ≤ z_ml k := by rw [hna]; omega
    have hstk : (as.reverse ++ rest).map (z_cv q) = (as.map (z_cv q)).reverse ++ rest.map (z_cv q) := by rw [List.map_append, List.map_reverse]
    rw [hstk]
    obtain ⟨q1, S1, e1⟩ := o1
    dsimp only at hcase j1 j2
    rcases hcase with ⟨r, o2, a1, a2, a3⟩ | ⟨E, v, a1, a2, a3⟩ | ⟨E, a1, a2, a3⟩
    · subst a1
      subst a3
      have hM := z_toMet (n := e1) j2 htr hA hmok hall hasl hpc0
      have hc19 : cells + (e1 + o2.2.2) ≤ C0 := hc1
      have hs19 : slots + 6 * (e1 + o2.2.2) ≤ S0 := hs1
      refine z_back (z_cS (pc := z_pc mi pc) (ls := ls) (cells := cells) (slots := slots) hC hF hA hd (z_w_in hw) hcal hmok htba hst hna hcat hM hP hX hS hl (by omega) (by omega)) hS (fun H1 locs1 hP1 hX1 hS1 => ?_)
      have h9 := (ih mi _ o2 a2).2 p e R s m args below meth c Q C0 S0 (cells + e1) (slots + 6 * e1) hC hF htab (by omega) hc2 (by omega) hs2 hE H1 locs1 ls ⟨hP1, hX1, hS1, hl, hlen⟩
      dsimp only at h9
      rw [hn] at h9
      rw [z_opt_list]
      exact h9
    · exfalso
      rw [List.isEmpty_iff.mp hth] at a2
      cases a2
    · subst a1
      subst a3
      have hM := z_toMetX (n := e1) (j1 E rfl) j2 htr hA hmok hall hasl hpc0
      have hc19 : cells + e1 ≤ C0 := hc1
      have hs19 : slots + 6 * e1 ≤ S0 := hs1
      refine z_backX (a := #[]) (z_cSX (pc := z_pc mi pc) (ls := ls) (cells := cells) (slots := slots) hC hF hA hd (z_w_in hw) hcal hmok htba hst hna hcat hM hP hX hS hl (by omega) (by omega)) hS (fun H1 locs1 q9 ce hP1 hX1 hS1 hce hcv hcl9 => ?_)
      exact (hE htb).1 _ ls _ H1 locs1 (cells + e1) (slots + 6 * e1) q9 ce hP1 hX1 hS1 hce hcv hcl9 hc19 hs19
  | 23, hok, hs => exact (z_nc23 hs).elim
  | 24, hok, hs => exact (z_nc24 hs).elim
  | 25, hok, hs => exact (z_nc25 hs).elim
  | 26, hok, hs => exact (z_nc26 hs).elim
  | 27, hok, hs => exact (z_nc27 hs).elim
  | 28, hok, hs => exact (z_nc28 hs).elim
  | 29, hok, hs => exact (z_nc29 hs).elim
  | 30, hok, hs => exact (z_nc30 hs).elim
  | 31, hok, hs => exact (z_nc31 hs).elim
  | 32, hok, hs =>
    simp only [z_ex] at hs
    obtain ⟨j, fk, rest, ag, rfl, rfl, rfl, rfl, hlay, hcat, hna, hall⟩ := z_invV hs
    simp only [z_okb, z_d, Bool.and_eq_true, decide_eq_true_eq, Bool.not_eq_true'] at hok
    obtain ⟨⟨⟨⟨⟨⟨⟨⟨hd, hn⟩, hw⟩, hcal⟩, hst⟩, htba⟩, hcl⟩, hthn⟩, hck⟩ := hok
    have hlt9 : k < 372 := by
      have h9 := hcal
      simp only [z_cal, Bool.and_eq_true, decide_eq_true_eq] at h9
      exact h9.1.1
    obtain ⟨hmok, hpc0⟩ := hG.2 k hlt9
    have hml9 := (z_mok_un hmok).2.2.2.2.2.2.2.2
    dsimp only at hcase j2
    have hasl : (.inr (.inr j) :: ag : List zV).length ≤ z_ml k := by rw [List.length_cons, hna]; omega
    have hstk : (ag.reverse ++ .inr (.inr j) :: rest).map (z_cv q) = (ag.map (z_cv q)).reverse ++ .ref (q j) :: rest.map (z_cv q) := by rw [List.map_append, List.map_reverse]; rfl
    rw [hstk]
    obtain ⟨q1, S1, e1⟩ := o1
    dsimp only at hcase j1 j2
    rcases hcase with ⟨r, o2, a1, a2, a3⟩ | ⟨E, v, a1, a2, a3⟩ | ⟨E, a1, a2, a3⟩
    · subst a1
      subst a3
      have hM := z_toMet (n := e1) j2 htr hA hmok hall hasl hpc0
      have hc19 : cells + (e1 + o2.2.2) ≤ C0 := hc1
      have hs19 : slots + 6 * (e1 + o2.2.2) ≤ S0 := hs1
      refine z_back (z_cV (pc := z_pc mi pc) (ls := ls) (cells := cells) (slots := slots) hC hF hA hd (z_w_in hw) hlay hcl hcal hmok htba hst hna hcat hM hP hX hS hl (by omega) (by omega)) hS (fun H1 locs1 hP1 hX1 hS1 => ?_)
      have h9 := (ih mi _ o2 a2).2 p e R s m args below meth c Q C0 S0 (cells + e1) (slots + 6 * e1) hC hF htab (by omega) hc2 (by omega) hs2 hE H1 locs1 ls ⟨hP1, hX1, hS1, hl, hlen⟩
      dsimp only at h9
      rw [hn] at h9
      rw [z_opt_list]
      exact h9
    · subst a1
      subst a3
      have hM := z_toMetX (n := e1) (j1 E rfl) j2 htr hA hmok hall hasl hpc0
      have hc19 : cells + e1 ≤ C0 := hc1
      have hs19 : slots + 6 * e1 ≤ S0 := hs1
      refine z_backX (a := #[]) (z_cVX (pc := z_pc mi pc) (ls := ls) (cells := cells) (slots := slots) hC hF hA hd (z_w_in hw) hlay hcl hcal hmok htba hst hna hcat hM hP hX hS hl (by omega) (by omega)) hS (fun H1 locs1 q9 ce hP1 hX1 hS1 hce hcv hcl9 => ?_)
      have hmne : ¬ (z_tb mi).isEmpty = true := by
        intro hb
        simp only [z_hck, Bool.and_eq_true, decide_eq_true_eq] at hck
        have hmap := hck.1.1.1.1.1
        rw [List.isEmpty_iff.mp hb] at hmap
        have h0 : z_th mi = [] := List.map_eq_nil_iff.mp hmap.symm
        rw [h0] at a2; cases a2
      exact z_caught hC hF (htab hmne) hck a2 hl hce hcv hcl9 (fun pc9 ls9 hret => hE pc9 ls9 H1 locs1 (cells + e1) (slots + 6 * e1) hret hP1 hX1 hS1 hc19 hs19)
    · exfalso
      rw [a2] at hthn
      cases hthn
  | 33, hok, hs => exact (z_nc33 hs).elim
  | 34, hok, hs => exact (z_nc34 hs).elim
  | 35, hok, hs =>
    simp only [z_ex] at hs
    obtain ⟨rest, rfl, rfl, rfl, hcat, hna, hall⟩ := z_invS hs
    simp only [z_okb, z_d, Bool.and_eq_true, decide_eq_true_eq, Bool.not_eq_true'] at hok
    obtain ⟨⟨⟨⟨⟨⟨⟨hd, hn⟩, hw⟩, hcal⟩, hst⟩, hth⟩, htb⟩, htba⟩ := hok
    have htba : ¬ (z_tb k).isEmpty = true := by rw [htba]; decide
    have hlt9 : k < 372 := by
      have h9 := hcal
      simp only [z_cal, Bool.and_eq_true, decide_eq_true_eq] at h9
      exact h9.1.1
    obtain ⟨hmok, hpc0⟩ := hG.2 k hlt9
    have hml9 := (z_mok_un hmok).2.2.2.2.2.2.2.2
    dsimp only at hcase j2
    have hasl : as.length ≤ z_ml k := by rw [hna]; omega
    have hstk : (as.reverse ++ rest).map (z_cv q) = (as.map (z_cv q)).reverse ++ rest.map (z_cv q) := by rw [List.map_append, List.map_reverse]
    rw [hstk]
    obtain ⟨q1, S1, e1⟩ := o1
    dsimp only at hcase j1 j2
    rcases hcase with ⟨r, o2, a1, a2, a3⟩ | ⟨E, v, a1, a2, a3⟩ | ⟨E, a1, a2, a3⟩
    · subst a1
      subst a3
      have hM := z_toMet (n := e1) j2 htr hA hmok hall hasl hpc0
      have hc19 : cells + (e1 + o2.2.2) ≤ C0 := hc1
      have hs19 : slots + 6 * (e1 + o2.2.2) ≤ S0 := hs1
      refine z_back (z_cT (pc := z_pc mi pc) (ls := ls) (cells := cells) (slots := slots) hC hF hA hd (z_w_in hw) hcal hmok htba hst hna hcat hM hP hX hS hl (by omega) (by omega)) hS (fun H1 locs1 hP1 hX1 hS1 => ?_)
      have h9 := (ih mi _ o2 a2).2 p e R s m args below meth c Q C0 S0 (cells + e1) (slots + 6 * e1) hC hF htab (by omega) hc2 (by omega) hs2 hE H1 locs1 ls ⟨hP1, hX1, hS1, hl, hlen⟩
      dsimp only at h9
      rw [hn] at h9
      rw [z_opt_list]
      exact h9
    · exfalso
      rw [List.isEmpty_iff.mp hth] at a2
      cases a2
    · subst a1
      subst a3
      have hM := z_toMetX (n := e1) (j1 E rfl) j2 htr hA hmok hall hasl hpc0
      have hc19 : cells + e1 ≤ C0 := hc1
      have hs19 : slots + 6 * e1 ≤ S0 := hs1
      refine z_backX (a := #[]) (z_cTX (pc := z_pc mi pc) (ls := ls) (cells := cells) (slots := slots) hC hF hA hd (z_w_in hw) hcal hmok htba hst hna hcat hM hP hX hS hl (by omega) (by omega)) hS (fun H1 locs1 q9 ce hP1 hX1 hS1 hce hcv hcl9 => ?_)
      exact (hE htb).1 _ ls _ H1 locs1 (cells + e1) (slots + 6 * e1) q9 ce hP1 hX1 hS1 hce hcv hcl9 hc19 hs19
  | 36, hok, hs => exact (z_nc36 hs).elim
  | 37, hok, hs => exact (z_nc37 hs).elim
  | 38, hok, hs => exact (z_nc38 hs).elim
  | 39, hok, hs => exact (z_nc39 hs).elim
  | n + 40, hok, hs => cases hok
set_option maxHeartbeats 4000000 in
theorem z_sound (hG : z_Good) (hA : z_Ap q A) (htr : l.stackTraces = false) : ∀ n, z_Ok l dC dI cI cZ cJ q A L X n := by
  intro n
  induction n with
  | zero => intro mi cf o h; cases h
  | succ n ih =>
    intro mi cf o h
    obtain ⟨pc, lv, st, S⟩ := cf
    rw [z_run_succ] at h
    unfold z_step at h
    dsimp only at h
    rcases hins : z_ins mi pc with _ | x
    · rw [hins] at h; cases h
    rw [hins] at h
    dsimp only at h
    have hok : z_okb mi pc x = true := by
      rcases hG.1 mi pc x hins with h9 | h9
      · rw [h9] at h; cases h
      · exact h9
    rcases hs : z_ex L pc lv st S x.1 x.2.1 x.2.2.1 with _ | (c2 | (⟨k, as, c2⟩ | (r | E)))
    · rw [hs] at h; cases h
    · -- the next place
      rw [hs] at h
      obtain ⟨i1, i2⟩ := ih mi c2 o h
      refine ⟨i1, ?_⟩
      intro p e R s m args below meth c Q C0 S0 cells slots hC hF htab hc1 hc2 hs1 hs2 hE
      exact z_next hG hC hF hA hok hs (by omega) (by omega) (i2 p e R s m args below meth c Q C0 S0 cells slots hC hF htab hc1 hc2 hs1 hs2 hE)
    · -- a call
      rw [hs] at h
      replace h : z_aft mi (z_run L n) c2 (z_run L n k (0, z_ent k as, [], c2.2.2.2)) = some o := h
      obtain ⟨o1, hr1, hcase⟩ := z_aft_inv h
      obtain ⟨j1, j2⟩ := ih k _ o1 hr1
      have hlt : ∀ E, o.1 = .inr E → E < 3 := by
        intro E hE
        rcases hcase with ⟨r, o2, a1, a2, a3⟩ | ⟨E2, v, a1, a2, a3⟩ | ⟨E2, a1, a2, a3⟩
        · rw [a3] at hE; exact (ih _ _ _ a2).1 E hE
        · rw [a3] at hE; cases hE
        · rw [a3] at hE; cases hE; exact j1 _ a1
      refine ⟨hlt, ?_⟩
      intro p e R s m args below meth c Q C0 S0 cells slots hC hF htab hc1 hc2 hs1 hs2 hE H locs ls hR
      exact z_callstep hG hA htr hok hs hcase j1 j2 ih hC hF htab hc1 hc2 hs1 hs2 hE H locs ls hR
    · -- an answer
      rw [hs] at h
      cases h
      refine ⟨fun E hE => (by cases hE), ?_⟩
      intro p e R s m args below meth c Q C0 S0 cells slots hC hF htab hc1 hc2 hs1 hs2 hE H locs ls hR
      obtain ⟨hP, hX, hS, hl, hlen⟩ := hR
      obtain ⟨g1, g2⟩ := z_ret_inv hok hs
      have h9 := hE (z_pc mi pc) ls H locs cells slots g1 hP hX hS (by show cells ≤ C0; have : cells + 0 ≤ C0 := hc1; omega) (by show slots ≤ S0; have : slots + 6 * 0 ≤ S0 := hs1; omega)
      dsimp only
      rw [g2]
      cases r <;> exact h9
    · -- a throw
      rw [hs] at h
      cases h
      have hx := z_thr_inv hok hs
      obtain ⟨b, ix, kw, v, hok9, hst, hE3, htb9⟩ := hx
      refine ⟨fun E2 hE => (by cases hE; exact hE3), ?_⟩
      intro p e R s m args below meth c Q C0 S0 cells slots hC hF htab hc1 hc2 hs1 hs2 hE H locs ls hR
      obtain ⟨hP, hX, hS, hl, hlen⟩ := hR
      subst hst
      exact (hE htb9).2 pc ix kw v ls H locs cells slots hok9 hP hX hS hl.1 (by show cells + 1 ≤ C0; exact hc1) (by show slots + 6 ≤ S0; have : slots + 6 * 1 ≤ S0 := hs1; omega)
end ZMN
end
