/-! what a place of the small machine comes to: rules, one for each kind of instruction -/
abbrev zT : Type := zCfg ⊕ zRes
def zg (L m : Nat) (c : zCfg) (o : zRes) : Prop := ∃ n, z_run L n m c = some o
def zt (L m pc : Nat) (lv : List (Option zV)) (st : List zV) (S : zS) (T : zT) : Prop := match T with
  | .inl c' => ∀ o, zg L m c' o → zg L m (pc, lv, st, S) o
  | .inr o => zg L m (pc, lv, st, S) o
def zf (L k : Nat) (as : List zV) (S : zS) (o : zRes) : Prop := zg L k (0, z_ent k as, [], S) o
def z_ib (m pc op a : Nat) (b : Int) : Bool := match z_ins m pc with
  | some x => Nat.beq x.1 op && Nat.beq x.2.1 a && decide (x.2.2.1 = b)
  | none => false
abbrev zi (m pc np op a : Nat) (b : Int) : Prop := (z_ib m pc op a b && Nat.beq np (pc + 1)) = true
abbrev zfl (k ci : Nat) (b : Int) (s : Nat) (v : Option Nat) : Prop := (match z_lay[k]? with
  | some (.inr (c, fk)) => Nat.beq c ci && decide (fk[b.toNat]? = some v) && Nat.beq b.toNat s
  | _ => false) = true
abbrev zar (k t n : Nat) : Prop := (match z_lay[k]? with
  | some (.inl (t', n')) => Nat.beq t t' && Nat.beq n n' && !(Nat.beq k 1000)
  | _ => false) = true
def zx (n : Nat) (i : Int32) : Prop := ¬ (i < 0 ∨ n ≤ i.toNatClampNeg)
def zo (x : Int32) : Prop := x = 0 ∨ x = 1
def zb (P : Prop) [Decidable P] : Int32 := if P then 1 else 0
def zrem (x y : Int32) : Int32 := x - x / y * y
def zshl (x y : Int32) : Int32 := x <<< (y &&& 31)
def zushr (x y : Int32) : Int32 := (x.toUInt32 >>> (y.toUInt32 &&& Int32.toUInt32 31)).toInt32
def zshr (x y : Int32) : Int32 := x >>> (y &&& 31)
def zmax (x y : Int32) : Int32 := if x < y then y else x
def zmin (x y : Int32) : Int32 := if y < x then y else x
theorem zup_s (S : zS) (k i : Nat) (v : Int32) : z_up S k i v k i = v := by simp [z_up, upd]
theorem zite_k {P : Prop} [Decidable P] {A B : zS} {k : Nat} {f : Nat → Int32} (h1 : A k = f) (h2 : B k = f) : (if P then A else B) k = f := by split <;> assumption
theorem zpc1 {Q : (Nat → Int32) → Prop} {f f' : Nat → Int32} (h : f = f') (hq : Q f') : Q f := h ▸ hq
theorem zpc2 {Q : (Nat → Int32) → (Nat → Int32) → Prop} {f f' g g' : Nat → Int32} (h : f = f') (h2 : g = g') (hq : Q f' g') : Q f g := h ▸ h2 ▸ hq
theorem zpc3 {Q : (Nat → Int32) → (Nat → Int32) → (Nat → Int32) → Prop} {f f' g g' k k' : Nat → Int32} (h : f = f') (h2 : g = g') (h3 : k = k') (hq : Q f' g' k') : Q f g k := h ▸ h2 ▸ h3 ▸ hq
theorem zk_cg0 : True := trivial
theorem zite_rd {P : Prop} [Decidable P] {A B : zS} {k i : Nat} {v : Int32} (h1 : A k i = v) (h2 : B k i = v) : (if P then A else B) k i = v := by split <;> assumption
theorem zupc {S : zS} {a j i : Nat} {v : Int32} (h : Nat.beq a j = false) : z_up S j i v a = S a := z_up_ne S j i v a (Nat.ne_of_beq_eq_false h)
theorem zupci {S : zS} {a j i b : Nat} {v : Int32} (h : Nat.beq a j = false) : z_up S j i v a b = S a b := congrFun (zupc h) b
theorem zupf {S : zS} {k i b : Nat} {v : Int32} (h : Nat.beq b i = false) : z_up S k i v k b = S k b := by
  rw [z_up_at]; exact if_neg (Nat.ne_of_beq_eq_false h)
theorem zb_01 (P : Prop) [Decidable P] : zo (zb P) := by unfold zb zo; split <;> simp
theorem zb_0 (P : Prop) [Decidable P] : (zb P = 0) = ¬ P := by unfold zb; split <;> simp_all
theorem zb_1 (P : Prop) [Decidable P] : (zb P = 1) = P := by unfold zb; split <;> simp_all
abbrev zob (k : Nat) (b : Int) : Prop := (match z_lay[k]? with
  | some (.inr (c, _)) => Nat.beq c b.toNat
  | _ => false) = true
theorem zob_un {k : Nat} {b : Int} (h : zob k b) : ∃ fk, z_lay[k]? = some (.inr (b.toNat, fk)) := by
  unfold zob at h
  split at h
  · next c fk hk => rw [hk, Nat.eq_of_beq_eq_true h]; exact ⟨fk, rfl⟩
  · cases h
theorem zi_step {m pc np op a : Nat} {b : Int} (h : zi m pc np op a b) : np = pc + 1 ∧ ∀ L lv st S, z_step L m (pc, lv, st, S) = z_ex L pc lv st S op a b := by
  unfold zi z_ib at h
  rw [Bool.and_eq_true] at h
  refine ⟨Nat.eq_of_beq_eq_true h.2, fun L lv st S => ?_⟩
  unfold z_step
  dsimp only
  rcases hz : z_ins m pc with _ | x
  · rw [hz] at h; exact absurd h.1 (fun h => by cases h)
  · rw [hz] at h
    dsimp only at h ⊢
    simp only [Bool.and_eq_true, decide_eq_true_eq] at h
    rw [Nat.eq_of_beq_eq_true h.1.1.1, Nat.eq_of_beq_eq_true h.1.1.2, h.1.2]
theorem zfl_un {k ci s : Nat} {b : Int} {v : Option Nat} (h : zfl k ci b s v) : ∃ fk, z_lay[k]? = some (.inr (ci, fk)) ∧ fk[b.toNat]? = some v ∧ b.toNat = s := by
  unfold zfl at h
  split at h
  · next c fk hk =>
    simp only [Bool.and_eq_true, decide_eq_true_eq] at h
    rw [hk, Nat.eq_of_beq_eq_true h.1.1]
    exact ⟨fk, rfl, h.1.2, Nat.eq_of_beq_eq_true h.2⟩
  · cases h
theorem zar_un {k t n : Nat} (h : zar k t n) : z_lay[k]? = some (.inl (t, n)) ∧ k ≠ 1000 := by
  unfold zar at h
  split at h
  · next t' n' hk =>
    simp only [Bool.and_eq_true, Bool.not_eq_true'] at h
    rw [hk, Nat.eq_of_beq_eq_true h.1.1, Nat.eq_of_beq_eq_true h.1.2]
    exact ⟨rfl, fun e => by rw [e] at h; exact absurd h.2 (by decide)⟩
  · cases h
theorem zg_next {L m pc : Nat} {lv : List (Option zV)} {st : List zV} {S : zS} {c : zCfg} {o : zRes} (hs : z_step L m (pc, lv, st, S) = some (.inl c)) (h : zg L m c o) : zg L m (pc, lv, st, S) o := by
  obtain ⟨n, hn⟩ := h
  exact ⟨n + 1, by rw [z_run_succ, hs]; exact hn⟩
theorem zt_next {L m pc : Nat} {lv : List (Option zV)} {st : List zV} {S : zS} {p' : Nat} {lv' : List (Option zV)} {st' : List zV} {S' : zS} {T : zT} (hs : z_step L m (pc, lv, st, S) = some (.inl (p', lv', st', S'))) (h : zt L m p' lv' st' S' T) : zt L m pc lv st S T := by
  unfold zt at *
  rcases T with c | o
  · exact fun o ho => zg_next hs (h o ho)
  · exact zg_next hs h
theorem zt_rfl {L m pc : Nat} {lv : List (Option zV)} {st : List zV} {S : zS} : zt L m pc lv st S (.inl (pc, lv, st, S)) := fun _ h => h
theorem zt_trans {L m pc : Nat} {lv : List (Option zV)} {st : List zV} {S : zS} {p' : Nat} {lv' : List (Option zV)} {st' : List zV} {S' : zS} {T : zT} (h1 : zt L m pc lv st S (.inl (p', lv', st', S'))) (h2 : zt L m p' lv' st' S' T) : zt L m pc lv st S T := by
  rcases T with c | o
  · exact fun o ho => h1 o (h2 o ho)
  · exact h1 o h2
theorem zt_cast {L m pc : Nat} {lv : List (Option zV)} {st : List zV} {S : zS} {T T' : zT} (h : zt L m pc lv st S T) (e : T = T') : zt L m pc lv st S T' := e ▸ h
theorem zt_ite {L m pc : Nat} {lv : List (Option zV)} {st : List zV} {S : zS} {P : Prop} [Decidable P] {T1 T2 : zT} (h1 : P → zt L m pc lv st S T1) (h2 : ¬ P → zt L m pc lv st S T2) : zt L m pc lv st S (if P then T1 else T2) := by
  by_cases h : P
  · rw [if_pos h]; exact h1 h
  · rw [if_neg h]; exact h2 h
/-! two results as one -/
theorem zm_o {P : Prop} [Decidable P] {o1 o2 : zRes} : (if P then (.inr o1 : zT) else .inr o2) = .inr (if P then o1 else o2) := by split <;> rfl
theorem zm_r {P : Prop} [Decidable P] {x y z : Int32} {S1 S2 S3 : zS} {e : Nat} (hz : (if P then x else y) = z) (hs : (if P then S1 else S2) = S3) : (if P then (.inr (.inl (some (.inl x)), S1, e) : zT) else .inr (.inl (some (.inl y)), S2, e)) = .inr (.inl (some (.inl z)), S3, e) := by subst hz hs; split <;> rfl
theorem zm_re {P : Prop} [Decidable P] {x y z : Int32} {S1 S2 S3 : zS} {e1 e2 e3 : Nat} (hz : (if P then x else y) = z) (hs : (if P then S1 else S2) = S3) (he : (if P then e1 else e2) = e3) : (if P then (.inr (.inl (some (.inl x)), S1, e1) : zT) else .inr (.inl (some (.inl y)), S2, e2)) = .inr (.inl (some (.inl z)), S3, e3) := by subst hz hs he; split <;> rfl
theorem zm_v {P : Prop} [Decidable P] {S1 S2 S3 : zS} {e : Nat} (hs : (if P then S1 else S2) = S3) : (if P then (.inr (.inl none, S1, e) : zT) else .inr (.inl none, S2, e)) = .inr (.inl none, S3, e) := by subst hs; split <;> rfl
theorem zm_c {P : Prop} [Decidable P] {pc : Nat} {l1 l2 l3 : List (Option zV)} {t1 t2 t3 : List zV} {S1 S2 S3 : zS} (hl : (if P then l1 else l2) = l3) (ht : (if P then t1 else t2) = t3) (hs : (if P then S1 else S2) = S3) : (if P then (.inl (pc, l1, t1, S1) : zT) else .inl (pc, l2, t2, S2)) = .inl (pc, l3, t3, S3) := by subst hl ht hs; split <;> rfl
theorem zz_s {α : Type} {P : Prop} [Decidable P] {x : α} : (if P then x else x) = x := by split <;> rfl
theorem zz_e {α : Type} {P : Prop} [Decidable P] {x y : α} : (if P then x else y) = (if P then x else y) := rfl
theorem zl_c {α : Type} {P : Prop} [Decidable P] {x y z : α} {a b c : List α} (h : (if P then x else y) = z) (hr : (if P then a else b) = c) : (if P then x :: a else y :: b) = z :: c := by subst h hr; split <;> rfl
theorem zl_v {P : Prop} [Decidable P] {x y z : Int32} (h : (if P then x else y) = z) : (if P then some (.inl x : zV) else some (.inl y)) = some (.inl z) := by subst h; split <;> rfl
theorem zl_t {P : Prop} [Decidable P] {x y z : Int32} (h : (if P then x else y) = z) : (if P then (.inl x : zV) else .inl y) = .inl z := by subst h; split <;> rfl
theorem zz_01 {P : Prop} [Decidable P] : (if P then (0 : Int32) else 1) = zb (¬ P) := by unfold zb; by_cases h : P <;> simp [h]
theorem zz_10 {P : Prop} [Decidable P] : (if P then (1 : Int32) else 0) = zb P := rfl
theorem zz_0b {P Q : Prop} [Decidable P] [Decidable Q] : (if P then (0 : Int32) else zb Q) = zb (¬ P ∧ Q) := by unfold zb; by_cases h : P <;> simp [h]
theorem zz_1b {P Q : Prop} [Decidable P] [Decidable Q] : (if P then (1 : Int32) else zb Q) = zb (P ∨ Q) := by unfold zb; by_cases h : P <;> simp [h]
theorem zz_b0 {P Q : Prop} [Decidable P] [Decidable Q] : (if P then zb Q else (0 : Int32)) = zb (P ∧ Q) := by unfold zb; by_cases h : P <;> simp [h]
theorem zz_b1 {P Q : Prop} [Decidable P] [Decidable Q] : (if P then zb Q else (1 : Int32)) = zb (¬ P ∨ Q) := by unfold zb; by_cases h : P <;> simp [h]
theorem zz_bb {P Q R : Prop} [Decidable P] [Decidable Q] [Decidable R] : (if P then zb Q else zb R) = zb (if P then Q else R) := by unfold zb; by_cases h : P <;> simp [h]
section ZRL
variable {L m pc np a : Nat} {b : Int} {lv : List (Option zV)} {st rest : List zV} {S S' : zS} {T T1 T2 : zT} {x y v c : Int32} {i : Int32} {k j n s : Nat}
theorem zr_0 (hi : zi m pc np 0 a b) (hv : Int32.ofInt b = v) (h : zt L m np lv (.inl v :: st) S T) : zt L m pc lv st S T := by
  obtain ⟨rfl, h1⟩ := zi_step hi
  exact zt_next ((h1 L lv st S).trans (by rw [← hv]; rfl)) h
theorem zr_1_0 {r : List (Option zV)} (hi : zi m pc np 1 0 b) (h : zt L m np (some (.inl x) :: r) (.inl x :: st) S T) : zt L m pc (some (.inl x) :: r) st S T := by
  obtain ⟨rfl, h1⟩ := zi_step hi
  exact zt_next ((h1 L _ _ _).trans rfl) h
theorem zr_2_0 {r : List (Option zV)} (hi : zi m pc np 2 0 b) (h : zt L m np (some (.inr (.inr k)) :: r) (.inr (.inr k) :: st) S T) : zt L m pc (some (.inr (.inr k)) :: r) st S T := by
  obtain ⟨rfl, h1⟩ := zi_step hi
  exact zt_next ((h1 L _ _ _).trans rfl) h
theorem zr_3_0 {u : Option zV} {r : List (Option zV)} (hi : zi m pc np 3 0 b) (h : zt L m np (some (.inl x) :: r) st S T) : zt L m pc (u :: r) (.inl x :: st) S T := by
  obtain ⟨rfl, h1⟩ := zi_step hi
  refine zt_next ((h1 L _ _ _).trans ?_) h
  simp only [z_ex]
  rw [if_pos (by simp)]
  rfl
theorem zr_4_0 {u : Option zV} {r : List (Option zV)} (hi : zi m pc np 4 0 b) (h : zt L m np (some (.inr (.inr k)) :: r) st S T) : zt L m pc (u :: r) (.inr (.inr k) :: st) S T := by
  obtain ⟨rfl, h1⟩ := zi_step hi
  refine zt_next ((h1 L _ _ _).trans ?_) h
  simp only [z_ex]
  rw [if_pos (by simp)]
  rfl
theorem zr_5c_0 {r : List (Option zV)} (hi : zi m pc np 5 0 b) (hv : Int32.ofInt b = c) (hx : x + c = v) (h : zt L m np (some (.inl v) :: r) st S T) : zt L m pc (some (.inl x) :: r) st S T := by
  obtain ⟨rfl, h1⟩ := zi_step hi
  subst hv hx
  exact zt_next ((h1 L _ _ _).trans rfl) h
theorem zr_5_0 {r : List (Option zV)} (hi : zi m pc np 5 0 b) (hv : Int32.ofInt b = c) (h : zt L m np (some (.inl (x + c)) :: r) st S T) : zt L m pc (some (.inl x) :: r) st S T := by
  obtain ⟨rfl, h1⟩ := zi_step hi
  subst hv
  exact zt_next ((h1 L _ _ _).trans rfl) h
theorem zr_1_1 {o0 : Option zV} {r : List (Option zV)} (hi : zi m pc np 1 1 b) (h : zt L m np (o0 :: some (.inl x) :: r) (.inl x :: st) S T) : zt L m pc (o0 :: some (.inl x) :: r) st S T := by
  obtain ⟨rfl, h1⟩ := zi_step hi
  exact zt_next ((h1 L _ _ _).trans rfl) h
theorem zr_2_1 {o0 : Option zV} {r : List (Option zV)} (hi : zi m pc np 2 1 b) (h : zt L m np (o0 :: some (.inr (.inr k)) :: r) (.inr (.inr k) :: st) S T) : zt L m pc (o0 :: some (.inr (.inr k)) :: r) st S T := by
  obtain ⟨rfl, h1⟩ := zi_step hi
  exact zt_next ((h1 L _ _ _).trans rfl) h
theorem zr_3_1 {o0 : Option zV} {u : Option zV} {r : List (Option zV)} (hi : zi m pc np 3 1 b) (h : zt L m np (o0 :: some (.inl x) :: r) st S T) : zt L m pc (o0 :: u :: r) (.inl x :: st) S T := by
  obtain ⟨rfl, h1⟩ := zi_step hi
  refine zt_next ((h1 L _ _ _).trans ?_) h
  simp only [z_ex]
  rw [if_pos (by simp)]
  rfl
theorem zr_4_1 {o0 : Option zV} {u : Option zV} {r : List (Option zV)} (hi : zi m pc np 4 1 b) (h : zt L m np (o0 :: some (.inr (.inr k)) :: r) st S T) : zt L m pc (o0 :: u :: r) (.inr (.inr k) :: st) S T := by
  obtain ⟨rfl, h1⟩ := zi_step hi
  refine zt_next ((h1 L _ _ _).trans ?_) h
  simp only [z_ex]
  rw [if_pos (by simp)]
  rfl
theorem zr_5c_1 {o0 : Option zV} {r : List (Option zV)} (hi : zi m pc np 5 1 b) (hv : Int32.ofInt b = c) (hx : x + c = v) (h : zt L m np (o0 :: some (.inl v) :: r) st S T) : zt L m pc (o0 :: some (.inl x) :: r) st S T := by
  obtain ⟨rfl, h1⟩ := zi_step hi
  subst hv hx
  exact zt_next ((h1 L _ _ _).trans rfl) h
theorem zr_5_1 {o0 : Option zV} {r : List (Option zV)} (hi : zi m pc np 5 1 b) (hv : Int32.ofInt b = c) (h : zt L m np (o0 :: some (.inl (x + c)) :: r) st S T) : zt L m pc (o0 :: some (.inl x) :: r) st S T := by
  obtain ⟨rfl, h1⟩ := zi_step hi
  subst hv
  exact zt_next ((h1 L _ _ _).trans rfl) h
theorem zr_1_2 {o0 o1 : Option zV} {r : List (Option zV)} (hi : zi m pc np 1 2 b) (h : zt L m np (o0 :: o1 :: some (.inl x) :: r) (.inl x :: st) S T) : zt L m pc (o0 :: o1 :: some (.inl x) :: r) st S T := by
  obtain ⟨rfl, h1⟩ := zi_step hi
  exact zt_next ((h1 L _ _ _).trans rfl) h
theorem zr_2_2 {o0 o1 : Option zV} {r : List (Option zV)} (hi : zi m pc np 2 2 b) (h : zt L m np (o0 :: o1 :: some (.inr (.inr k)) :: r) (.inr (.inr k) :: st) S T) : zt L m pc (o0 :: o1 :: some (.inr (.inr k)) :: r) st S T := by
  obtain ⟨rfl, h1⟩ := zi_step hi
  exact zt_next ((h1 L _ _ _).trans rfl) h
theorem zr_3_2 {o0 o1 : Option zV} {u : Option zV} {r : List (Option zV)} (hi : zi m pc np 3 2 b) (h : zt L m np (o0 :: o1 :: some (.inl x) :: r) st S T) : zt L m pc (o0 :: o1 :: u :: r) (.inl x :: st) S T := by
  obtain ⟨rfl, h1⟩ := zi_step hi
  refine zt_next ((h1 L _ _ _).trans ?_) h
  simp only [z_ex]
  rw [if_pos (by simp)]
  rfl
theorem zr_4_2 {o0 o1 : Option zV} {u : Option zV} {r : List (Option zV)} (hi : zi m pc np 4 2 b) (h : zt L m np (o0 :: o1 :: some (.inr (.inr k)) :: r) st S T) : zt L m pc (o0 :: o1 :: u :: r) (.inr (.inr k) :: st) S T := by
  obtain ⟨rfl, h1⟩ := zi_step hi
  refine zt_next ((h1 L _ _ _).trans ?_) h
  simp only [z_ex]
  rw [if_pos (by simp)]
  rfl
theorem zr_5c_2 {o0 o1 : Option zV} {r : List (Option zV)} (hi : zi m pc np 5 2 b) (hv : Int32.ofInt b = c) (hx : x + c = v) (h : zt L m np (o0 :: o1 :: some (.inl v) :: r) st S T) : zt L m pc (o0 :: o1 :: some (.inl x) :: r) st S T := by
  obtain ⟨rfl, h1⟩ := zi_step hi
  subst hv hx
  exact zt_next ((h1 L _ _ _).trans rfl) h
theorem zr_5_2 {o0 o1 : Option zV} {r : List (Option zV)} (hi : zi m pc np 5 2 b) (hv : Int32.ofInt b = c) (h : zt L m np (o0 :: o1 :: some (.inl (x + c)) :: r) st S T) : zt L m pc (o0 :: o1 :: some (.inl x) :: r) st S T := by
  obtain ⟨rfl, h1⟩ := zi_step hi
  subst hv
  exact zt_next ((h1 L _ _ _).trans rfl) h
theorem zr_1_3 {o0 o1 o2 : Option zV} {r : List (Option zV)} (hi : zi m pc np 1 3 b) (h : zt L m np (o0 :: o1 :: o2 :: some (.inl x) :: r) (.inl x :: st) S T) : zt L m pc (o0 :: o1 :: o2 :: some (.inl x) :: r) st S T := by
  obtain ⟨rfl, h1⟩ := zi_step hi
  exact zt_next ((h1 L _ _ _).trans rfl) h
theorem zr_2_3 {o0 o1 o2 : Option zV} {r : List (Option zV)} (hi : zi m pc np 2 3 b) (h : zt L m np (o0 :: o1 :: o2 :: some (.inr (.inr k)) :: r) (.inr (.inr k) :: st) S T) : zt L m pc (o0 :: o1 :: o2 :: some (.inr (.inr k)) :: r) st S T := by
  obtain ⟨rfl, h1⟩ := zi_step hi
  exact zt_next ((h1 L _ _ _).trans rfl) h
theorem zr_3_3 {o0 o1 o2 : Option zV} {u : Option zV} {r : List (Option zV)} (hi : zi m pc np 3 3 b) (h : zt L m np (o0 :: o1 :: o2 :: some (.inl x) :: r) st S T) : zt L m pc (o0 :: o1 :: o2 :: u :: r) (.inl x :: st) S T := by
  obtain ⟨rfl, h1⟩ := zi_step hi
  refine zt_next ((h1 L _ _ _).trans ?_) h
  simp only [z_ex]
  rw [if_pos (by simp)]
  rfl
theorem zr_4_3 {o0 o1 o2 : Option zV} {u : Option zV} {r : List (Option zV)} (hi : zi m pc np 4 3 b) (h : zt L m np (o0 :: o1 :: o2 :: some (.inr (.inr k)) :: r) st S T) : zt L m pc (o0 :: o1 :: o2 :: u :: r) (.inr (.inr k) :: st) S T := by
  obtain ⟨rfl, h1⟩ := zi_step hi
  refine zt_next ((h1 L _ _ _).trans ?_) h
  simp only [z_ex]
  rw [if_pos (by simp)]
  rfl
theorem zr_5c_3 {o0 o1 o2 : Option zV} {r : List (Option zV)} (hi : zi m pc np 5 3 b) (hv : Int32.ofInt b = c) (hx : x + c = v) (h : zt L m np (o0 :: o1 :: o2 :: some (.inl v) :: r) st S T) : zt L m pc (o0 :: o1 :: o2 :: some (.inl x) :: r) st S T := by
  obtain ⟨rfl, h1⟩ := zi_step hi
  subst hv hx
  exact zt_next ((h1 L _ _ _).trans rfl) h
theorem zr_5_3 {o0 o1 o2 : Option zV} {r : List (Option zV)} (hi : zi m pc np 5 3 b) (hv : Int32.ofInt b = c) (h : zt L m np (o0 :: o1 :: o2 :: some (.inl (x + c)) :: r) st S T) : zt L m pc (o0 :: o1 :: o2 :: some (.inl x) :: r) st S T := by
  obtain ⟨rfl, h1⟩ := zi_step hi
  subst hv
  exact zt_next ((h1 L _ _ _).trans rfl) h
theorem zr_1_4 {o0 o1 o2 o3 : Option zV} {r : List (Option zV)} (hi : zi m pc np 1 4 b) (h : zt L m np (o0 :: o1 :: o2 :: o3 :: some (.inl x) :: r) (.inl x :: st) S T) : zt L m pc (o0 :: o1 :: o2 :: o3 :: some (.inl x) :: r) st S T := by
  obtain ⟨rfl, h1⟩ := zi_step hi
  exact zt_next ((h1 L _ _ _).trans rfl) h
theorem zr_2_4 {o0 o1 o2 o3 : Option zV} {r : List (Option zV)} (hi : zi m pc np 2 4 b) (h : zt L m np (o0 :: o1 :: o2 :: o3 :: some (.inr (.inr k)) :: r) (.inr (.inr k) :: st) S T) : zt L m pc (o0 :: o1 :: o2 :: o3 :: some (.inr (.inr k)) :: r) st S T := by
  obtain ⟨rfl, h1⟩ := zi_step hi
  exact zt_next ((h1 L _ _ _).trans rfl) h
theorem zr_3_4 {o0 o1 o2 o3 : Option zV} {u : Option zV} {r : List (Option zV)} (hi : zi m pc np 3 4 b) (h : zt L m np (o0 :: o1 :: o2 :: o3 :: some (.inl x) :: r) st S T) : zt L m pc (o0 :: o1 :: o2 :: o3 :: u :: r) (.inl x :: st) S T := by
  obtain ⟨rfl, h1⟩ := zi_step hi
  refine zt_next ((h1 L _ _ _).trans ?_) h
  simp only [z_ex]
  rw [if_pos (by simp)]
  rfl
theorem zr_4_4 {o0 o1 o2 o3 : Option zV} {u : Option zV} {r : List (Option zV)} (hi : zi m pc np 4 4 b) (h : zt L m np (o0 :: o1 :: o2 :: o3 :: some (.inr (.inr k)) :: r) st S T) : zt L m pc (o0 :: o1 :: o2 :: o3 :: u :: r) (.inr (.inr k) :: st) S T := by
  obtain ⟨rfl, h1⟩ := zi_step hi
  refine zt_next ((h1 L _ _ _).trans ?_) h
  simp only [z_ex]
  rw [if_pos (by simp)]
  rfl
theorem zr_5c_4 {o0 o1 o2 o3 : Option zV} {r : List (Option zV)} (hi : zi m pc np 5 4 b) (hv : Int32.ofInt b = c) (hx : x + c = v) (h : zt L m np (o0 :: o1 :: o2 :: o3 :: some (.inl v) :: r) st S T) : zt L m pc (o0 :: o1 :: o2 :: o3 :: some (.inl x) :: r) st S T := by
  obtain ⟨rfl, h1⟩ := zi_step hi
  subst hv hx
  exact zt_next ((h1 L _ _ _).trans rfl) h
theorem zr_5_4 {o0 o1 o2 o3 : Option zV} {r : List (Option zV)} (hi : zi m pc np 5 4 b) (hv : Int32.ofInt b = c) (h : zt L m np (o0 :: o1 :: o2 :: o3 :: some (.inl (x + c)) :: r) st S T) : zt L m pc (o0 :: o1 :: o2 :: o3 :: some (.inl x) :: r) st S T := by
  obtain ⟨rfl, h1⟩ := zi_step hi
  subst hv
  exact zt_next ((h1 L _ _ _).trans rfl) h
theorem zr_1_5 {o0 o1 o2 o3 o4 : Option zV} {r : List (Option zV)} (hi : zi m pc np 1 5 b) (h : zt L m np (o0 :: o1 :: o2 :: o3 :: o4 :: some (.inl x) :: r) (.inl x :: st) S T) : zt L m pc (o0 :: o1 :: o2 :: o3 :: o4 :: some (.inl x) :: r) st S T := by
  obtain ⟨rfl, h1⟩ := zi_step hi
  exact zt_next ((h1 L _ _ _).trans rfl) h
theorem zr_2_5 {o0 o1 o2 o3 o4 : Option zV} {r : List (Option zV)} (hi : zi m pc np 2 5 b) (h : zt L m np (o0 :: o1 :: o2 :: o3 :: o4 :: some (.inr (.inr k)) :: r) (.inr (.inr k) :: st) S T) : zt L m pc (o0 :: o1 :: o2 :: o3 :: o4 :: some (.inr (.inr k)) :: r) st S T := by
  obtain ⟨rfl, h1⟩ := zi_step hi
  exact zt_next ((h1 L _ _ _).trans rfl) h
theorem zr_3_5 {o0 o1 o2 o3 o4 : Option zV} {u : Option zV} {r : List (Option zV)} (hi : zi m pc np 3 5 b) (h : zt L m np (o0 :: o1 :: o2 :: o3 :: o4 :: some (.inl x) :: r) st S T) : zt L m pc (o0 :: o1 :: o2 :: o3 :: o4 :: u :: r) (.inl x :: st) S T := by
  obtain ⟨rfl, h1⟩ := zi_step hi
  refine zt_next ((h1 L _ _ _).trans ?_) h
  simp only [z_ex]
  rw [if_pos (by simp)]
  rfl
theorem zr_4_5 {o0 o1 o2 o3 o4 : Option zV} {u : Option zV} {r : List (Option zV)} (hi : zi m pc np 4 5 b) (h : zt L m np (o0 :: o1 :: o2 :: o3 :: o4 :: some (.inr (.inr k)) :: r) st S T) : zt L m pc (o0 :: o1 :: o2 :: o3 :: o4 :: u :: r) (.inr (.inr k) :: st) S T := by
  obtain ⟨rfl, h1⟩ := zi_step hi
  refine zt_next ((h1 L _ _ _).trans ?_) h
  simp only [z_ex]
  rw [if_pos (by simp)]
  rfl
theorem zr_5c_5 {o0 o1 o2 o3 o4 : Option zV} {r : List (Option zV)} (hi : zi m pc np 5 5 b) (hv : Int32.ofInt b = c) (hx : x + c = v) (h : zt L m np (o0 :: o1 :: o2 :: o3 :: o4 :: some (.inl v) :: r) st S T) : zt L m pc (o0 :: o1 :: o2 :: o3 :: o4 :: some (.inl x) :: r) st S T := by
  obtain ⟨rfl, h1⟩ := zi_step hi
  subst hv hx
  exact zt_next ((h1 L _ _ _).trans rfl) h
theorem zr_5_5 {o0 o1 o2 o3 o4 : Option zV} {r : List (Option zV)} (hi : zi m pc np 5 5 b) (hv : Int32.ofInt b = c) (h : zt L m np (o0 :: o1 :: o2 :: o3 :: o4 :: some (.inl (x + c)) :: r) st S T) : zt L m pc (o0 :: o1 :: o2 :: o3 :: o4 :: some (.inl x) :: r) st S T := by
  obtain ⟨rfl, h1⟩ := zi_step hi
  subst hv
  exact zt_next ((h1 L _ _ _).trans rfl) h
theorem zr_1_6 {o0 o1 o2 o3 o4 o5 : Option zV} {r : List (Option zV)} (hi : zi m pc np 1 6 b) (h : zt L m np (o0 :: o1 :: o2 :: o3 :: o4 :: o5 :: some (.inl x) :: r) (.inl x :: st) S T) : zt L m pc (o0 :: o1 :: o2 :: o3 :: o4 :: o5 :: some (.inl x) :: r) st S T := by
  obtain ⟨rfl, h1⟩ := zi_step hi
  exact zt_next ((h1 L _ _ _).trans rfl) h
theorem zr_2_6 {o0 o1 o2 o3 o4 o5 : Option zV} {r : List (Option zV)} (hi : zi m pc np 2 6 b) (h : zt L m np (o0 :: o1 :: o2 :: o3 :: o4 :: o5 :: some (.inr (.inr k)) :: r) (.inr (.inr k) :: st) S T) : zt L m pc (o0 :: o1 :: o2 :: o3 :: o4 :: o5 :: some (.inr (.inr k)) :: r) st S T := by
  obtain ⟨rfl, h1⟩ := zi_step hi
  exact zt_next ((h1 L _ _ _).trans rfl) h
theorem zr_3_6 {o0 o1 o2 o3 o4 o5 : Option zV} {u : Option zV} {r : List (Option zV)} (hi : zi m pc np 3 6 b) (h : zt L m np (o0 :: o1 :: o2 :: o3 :: o4 :: o5 :: some (.inl x) :: r) st S T) : zt L m pc (o0 :: o1 :: o2 :: o3 :: o4 :: o5 :: u :: r) (.inl x :: st) S T := by
  obtain ⟨rfl, h1⟩ := zi_step hi
  refine zt_next ((h1 L _ _ _).trans ?_) h
  simp only [z_ex]
  rw [if_pos (by simp)]
  rfl
theorem zr_4_6 {o0 o1 o2 o3 o4 o5 : Option zV} {u : Option zV} {r : List (Option zV)} (hi : zi m pc np 4 6 b) (h : zt L m np (o0 :: o1 :: o2 :: o3 :: o4 :: o5 :: some (.inr (.inr k)) :: r) st S T) : zt L m pc (o0 :: o1 :: o2 :: o3 :: o4 :: o5 :: u :: r) (.inr (.inr k) :: st) S T := by
  obtain ⟨rfl, h1⟩ := zi_step hi
  refine zt_next ((h1 L _ _ _).trans ?_) h
  simp only [z_ex]
  rw [if_pos (by simp)]
  rfl
theorem zr_5c_6 {o0 o1 o2 o3 o4 o5 : Option zV} {r : List (Option zV)} (hi : zi m pc np 5 6 b) (hv : Int32.ofInt b = c) (hx : x + c = v) (h : zt L m np (o0 :: o1 :: o2 :: o3 :: o4 :: o5 :: some (.inl v) :: r) st S T) : zt L m pc (o0 :: o1 :: o2 :: o3 :: o4 :: o5 :: some (.inl x) :: r) st S T := by
  obtain ⟨rfl, h1⟩ := zi_step hi
  subst hv hx
  exact zt_next ((h1 L _ _ _).trans rfl) h
theorem zr_5_6 {o0 o1 o2 o3 o4 o5 : Option zV} {r : List (Option zV)} (hi : zi m pc np 5 6 b) (hv : Int32.ofInt b = c) (h : zt L m np (o0 :: o1 :: o2 :: o3 :: o4 :: o5 :: some (.inl (x + c)) :: r) st S T) : zt L m pc (o0 :: o1 :: o2 :: o3 :: o4 :: o5 :: some (.inl x) :: r) st S T := by
  obtain ⟨rfl, h1⟩ := zi_step hi
  subst hv
  exact zt_next ((h1 L _ _ _).trans rfl) h
theorem zr_1_7 {o0 o1 o2 o3 o4 o5 o6 : Option zV} {r : List (Option zV)} (hi : zi m pc np 1 7 b) (h : zt L m np (o0 :: o1 :: o2 :: o3 :: o4 :: o5 :: o6 :: some (.inl x) :: r) (.inl x :: st) S T) : zt L m pc (o0 :: o1 :: o2 :: o3 :: o4 :: o5 :: o6 :: some (.inl x) :: r) st S T := by
  obtain ⟨rfl, h1⟩ := zi_step hi
  exact zt_next ((h1 L _ _ _).trans rfl) h
theorem zr_2_7 {o0 o1 o2 o3 o4 o5 o6 : Option zV} {r : List (Option zV)} (hi : zi m pc np 2 7 b) (h : zt L m np (o0 :: o1 :: o2 :: o3 :: o4 :: o5 :: o6 :: some (.inr (.inr k)) :: r) (.inr (.inr k) :: st) S T) : zt L m pc (o0 :: o1 :: o2 :: o3 :: o4 :: o5 :: o6 :: some (.inr (.inr k)) :: r) st S T := by
  obtain ⟨rfl, h1⟩ := zi_step hi
  exact zt_next ((h1 L _ _ _).trans rfl) h
theorem zr_3_7 {o0 o1 o2 o3 o4 o5 o6 : Option zV} {u : Option zV} {r : List (Option zV)} (hi : zi m pc np 3 7 b) (h : zt L m np (o0 :: o1 :: o2 :: o3 :: o4 :: o5 :: o6 :: some (.inl x) :: r) st S T) : zt L m pc (o0 :: o1 :: o2 :: o3 :: o4 :: o5 :: o6 :: u :: r) (.inl x :: st) S T := by
  obtain ⟨rfl, h1⟩ := zi_step hi
  refine zt_next ((h1 L _ _ _).trans ?_) h
  simp only [z_ex]
  rw [if_pos (by simp)]
  rfl
theorem zr_4_7 {o0 o1 o2 o3 o4 o5 o6 : Option zV} {u : Option zV} {r : List (Option zV)} (hi : zi m pc np 4 7 b) (h : zt L m np (o0 :: o1 :: o2 :: o3 :: o4 :: o5 :: o6 :: some (.inr (.inr k)) :: r) st S T) : zt L m pc (o0 :: o1 :: o2 :: o3 :: o4 :: o5 :: o6 :: u :: r) (.inr (.inr k) :: st) S T := by
  obtain ⟨rfl, h1⟩ := zi_step hi
  refine zt_next ((h1 L _ _ _).trans ?_) h
  simp only [z_ex]
  rw [if_pos (by simp)]
  rfl
theorem zr_5c_7 {o0 o1 o2 o3 o4 o5 o6 : Option zV} {r : List (Option zV)} (hi : zi m pc np 5 7 b) (hv : Int32.ofInt b = c) (hx : x + c = v) (h : zt L m np (o0 :: o1 :: o2 :: o3 :: o4 :: o5 :: o6 :: some (.inl v) :: r) st S T) : zt L m pc (o0 :: o1 :: o2 :: o3 :: o4 :: o5 :: o6 :: some (.inl x) :: r) st S T := by
  obtain ⟨rfl, h1⟩ := zi_step hi
  subst hv hx
  exact zt_next ((h1 L _ _ _).trans rfl) h
theorem zr_5_7 {o0 o1 o2 o3 o4 o5 o6 : Option zV} {r : List (Option zV)} (hi : zi m pc np 5 7 b) (hv : Int32.ofInt b = c) (h : zt L m np (o0 :: o1 :: o2 :: o3 :: o4 :: o5 :: o6 :: some (.inl (x + c)) :: r) st S T) : zt L m pc (o0 :: o1 :: o2 :: o3 :: o4 :: o5 :: o6 :: some (.inl x) :: r) st S T := by
  obtain ⟨rfl, h1⟩ := zi_step hi
  subst hv
  exact zt_next ((h1 L _ _ _).trans rfl) h
theorem zr_1_8 {o0 o1 o2 o3 o4 o5 o6 o7 : Option zV} {r : List (Option zV)} (hi : zi m pc np 1 8 b) (h : zt L m np (o0 :: o1 :: o2 :: o3 :: o4 :: o5 :: o6 :: o7 :: some (.inl x) :: r) (.inl x :: st) S T) : zt L m pc (o0 :: o1 :: o2 :: o3 :: o4 :: o5 :: o6 :: o7 :: some (.inl x) :: r) st S T := by
  obtain ⟨rfl, h1⟩ := zi_step hi
  exact zt_next ((h1 L _ _ _).trans rfl) h
theorem zr_2_8 {o0 o1 o2 o3 o4 o5 o6 o7 : Option zV} {r : List (Option zV)} (hi : zi m pc np 2 8 b) (h : zt L m np (o0 :: o1 :: o2 :: o3 :: o4 :: o5 :: o6 :: o7 :: some (.inr (.inr k)) :: r) (.inr (.inr k) :: st) S T) : zt L m pc (o0 :: o1 :: o2 :: o3 :: o4 :: o5 :: o6 :: o7 :: some (.inr (.inr k)) :: r) st S T := by
  obtain ⟨rfl, h1⟩ := zi_step hi
  exact zt_next ((h1 L _ _ _).trans rfl) h
theorem zr_3_8 {o0 o1 o2 o3 o4 o5 o6 o7 : Option zV} {u : Option zV} {r : List (Option zV)} (hi : zi m pc np 3 8 b) (h : zt L m np (o0 :: o1 :: o2 :: o3 :: o4 :: o5 :: o6 :: o7 :: some (.inl x) :: r) st S T) : zt L m pc (o0 :: o1 :: o2 :: o3 :: o4 :: o5 :: o6 :: o7 :: u :: r) (.inl x :: st) S T := by
  obtain ⟨rfl, h1⟩ := zi_step hi
  refine zt_next ((h1 L _ _ _).trans ?_) h
  simp only [z_ex]
  rw [if_pos (by simp)]
  rfl
theorem zr_4_8 {o0 o1 o2 o3 o4 o5 o6 o7 : Option zV} {u : Option zV} {r : List (Option zV)} (hi : zi m pc np 4 8 b) (h : zt L m np (o0 :: o1 :: o2 :: o3 :: o4 :: o5 :: o6 :: o7 :: some (.inr (.inr k)) :: r) st S T) : zt L m pc (o0 :: o1 :: o2 :: o3 :: o4 :: o5 :: o6 :: o7 :: u :: r) (.inr (.inr k) :: st) S T := by
  obtain ⟨rfl, h1⟩ := zi_step hi
  refine zt_next ((h1 L _ _ _).trans ?_) h
  simp only [z_ex]
  rw [if_pos (by simp)]
  rfl
theorem zr_5c_8 {o0 o1 o2 o3 o4 o5 o6 o7 : Option zV} {r : List (Option zV)} (hi : zi m pc np 5 8 b) (hv : Int32.ofInt b = c) (hx : x + c = v) (h : zt L m np (o0 :: o1 :: o2 :: o3 :: o4 :: o5 :: o6 :: o7 :: some (.inl v) :: r) st S T) : zt L m pc (o0 :: o1 :: o2 :: o3 :: o4 :: o5 :: o6 :: o7 :: some (.inl x) :: r) st S T := by
  obtain ⟨rfl, h1⟩ := zi_step hi
  subst hv hx
  exact zt_next ((h1 L _ _ _).trans rfl) h
theorem zr_5_8 {o0 o1 o2 o3 o4 o5 o6 o7 : Option zV} {r : List (Option zV)} (hi : zi m pc np 5 8 b) (hv : Int32.ofInt b = c) (h : zt L m np (o0 :: o1 :: o2 :: o3 :: o4 :: o5 :: o6 :: o7 :: some (.inl (x + c)) :: r) st S T) : zt L m pc (o0 :: o1 :: o2 :: o3 :: o4 :: o5 :: o6 :: o7 :: some (.inl x) :: r) st S T := by
  obtain ⟨rfl, h1⟩ := zi_step hi
  subst hv
  exact zt_next ((h1 L _ _ _).trans rfl) h
theorem zr_1_9 {o0 o1 o2 o3 o4 o5 o6 o7 o8 : Option zV} {r : List (Option zV)} (hi : zi m pc np 1 9 b) (h : zt L m np (o0 :: o1 :: o2 :: o3 :: o4 :: o5 :: o6 :: o7 :: o8 :: some (.inl x) :: r) (.inl x :: st) S T) : zt L m pc (o0 :: o1 :: o2 :: o3 :: o4 :: o5 :: o6 :: o7 :: o8 :: some (.inl x) :: r) st S T := by
  obtain ⟨rfl, h1⟩ := zi_step hi
  exact zt_next ((h1 L _ _ _).trans rfl) h
theorem zr_2_9 {o0 o1 o2 o3 o4 o5 o6 o7 o8 : Option zV} {r : List (Option zV)} (hi : zi m pc np 2 9 b) (h : zt L m np (o0 :: o1 :: o2 :: o3 :: o4 :: o5 :: o6 :: o7 :: o8 :: some (.inr (.inr k)) :: r) (.inr (.inr k) :: st) S T) : zt L m pc (o0 :: o1 :: o2 :: o3 :: o4 :: o5 :: o6 :: o7 :: o8 :: some (.inr (.inr k)) :: r) st S T := by
  obtain ⟨rfl, h1⟩ := zi_step hi
  exact zt_next ((h1 L _ _ _).trans rfl) h
theorem zr_3_9 {o0 o1 o2 o3 o4 o5 o6 o7 o8 : Option zV} {u : Option zV} {r : List (Option zV)} (hi : zi m pc np 3 9 b) (h : zt L m np (o0 :: o1 :: o2 :: o3 :: o4 :: o5 :: o6 :: o7 :: o8 :: some (.inl x) :: r) st S T) : zt L m pc (o0 :: o1 :: o2 :: o3 :: o4 :: o5 :: o6 :: o7 :: o8 :: u :: r) (.inl x :: st) S T := by
  obtain ⟨rfl, h1⟩ := zi_step hi
  refine zt_next ((h1 L _ _ _).trans ?_) h
  simp only [z_ex]
  rw [if_pos (by simp)]
  rfl
theorem zr_4_9 {o0 o1 o2 o3 o4 o5 o6 o7 o8 : Option zV} {u : Option zV} {r : List (Option zV)} (hi : zi m pc np 4 9 b) (h : zt L m np (o0 :: o1 :: o2 :: o3 :: o4 :: o5 :: o6 :: o7 :: o8 :: some (.inr (.inr k)) :: r) st S T) : zt L m pc (o0 :: o1 :: o2 :: o3 :: o4 :: o5 :: o6 :: o7 :: o8 :: u :: r) (.inr (.inr k) :: st) S T := by
  obtain ⟨rfl, h1⟩ := zi_step hi
  refine zt_next ((h1 L _ _ _).trans ?_) h
  simp only [z_ex]
  rw [if_pos (by simp)]
  rfl
theorem zr_5c_9 {o0 o1 o2 o3 o4 o5 o6 o7 o8 : Option zV} {r : List (Option zV)} (hi : zi m pc np 5 9 b) (hv : Int32.ofInt b = c) (hx : x + c = v) (h : zt L m np (o0 :: o1 :: o2 :: o3 :: o4 :: o5 :: o6 :: o7 :: o8 :: some (.inl v) :: r) st S T) : zt L m pc (o0 :: o1 :: o2 :: o3 :: o4 :: o5 :: o6 :: o7 :: o8 :: some (.inl x) :: r) st S T := by
  obtain ⟨rfl, h1⟩ := zi_step hi
  subst hv hx
  exact zt_next ((h1 L _ _ _).trans rfl) h
theorem zr_5_9 {o0 o1 o2 o3 o4 o5 o6 o7 o8 : Option zV} {r : List (Option zV)} (hi : zi m pc np 5 9 b) (hv : Int32.ofInt b = c) (h : zt L m np (o0 :: o1 :: o2 :: o3 :: o4 :: o5 :: o6 :: o7 :: o8 :: some (.inl (x + c)) :: r) st S T) : zt L m pc (o0 :: o1 :: o2 :: o3 :: o4 :: o5 :: o6 :: o7 :: o8 :: some (.inl x) :: r) st S T := by
  obtain ⟨rfl, h1⟩ := zi_step hi
  subst hv
  exact zt_next ((h1 L _ _ _).trans rfl) h
theorem zr_1_10 {o0 o1 o2 o3 o4 o5 o6 o7 o8 o9 : Option zV} {r : List (Option zV)} (hi : zi m pc np 1 10 b) (h : zt L m np (o0 :: o1 :: o2 :: o3 :: o4 :: o5 :: o6 :: o7 :: o8 :: o9 :: some (.inl x) :: r) (.inl x :: st) S T) : zt L m pc (o0 :: o1 :: o2 :: o3 :: o4 :: o5 :: o6 :: o7 :: o8 :: o9 :: some (.inl x) :: r) st S T := by
  obtain ⟨rfl, h1⟩ := zi_step hi
  exact zt_next ((h1 L _ _ _).trans rfl) h
theorem zr_2_10 {o0 o1 o2 o3 o4 o5 o6 o7 o8 o9 : Option zV} {r : List (Option zV)} (hi : zi m pc np 2 10 b) (h : zt L m np (o0 :: o1 :: o2 :: o3 :: o4 :: o5 :: o6 :: o7 :: o8 :: o9 :: some (.inr (.inr k)) :: r) (.inr (.inr k) :: st) S T) : zt L m pc (o0 :: o1 :: o2 :: o3 :: o4 :: o5 :: o6 :: o7 :: o8 :: o9 :: some (.inr (.inr k)) :: r) st S T := by
  obtain ⟨rfl, h1⟩ := zi_step hi
  exact zt_next ((h1 L _ _ _).trans rfl) h
theorem zr_3_10 {o0 o1 o2 o3 o4 o5 o6 o7 o8 o9 : Option zV} {u : Option zV} {r : List (Option zV)} (hi : zi m pc np 3 10 b) (h : zt L m np (o0 :: o1 :: o2 :: o3 :: o4 :: o5 :: o6 :: o7 :: o8 :: o9 :: some (.inl x) :: r) st S T) : zt L m pc (o0 :: o1 :: o2 :: o3 :: o4 :: o5 :: o6 :: o7 :: o8 :: o9 :: u :: r) (.inl x :: st) S T := by
  obtain ⟨rfl, h1⟩ := zi_step hi
  refine zt_next ((h1 L _ _ _).trans ?_) h
  simp only [z_ex]
  rw [if_pos (by simp)]
  rfl
theorem zr_4_10 {o0 o1 o2 o3 o4 o5 o6 o7 o8 o9 : Option zV} {u : Option zV} {r : List (Option zV)} (hi : zi m pc np 4 10 b) (h : zt L m np (o0 :: o1 :: o2 :: o3 :: o4 :: o5 :: o6 :: o7 :: o8 :: o9 :: some (.inr (.inr k)) :: r) st S T) : zt L m pc (o0 :: o1 :: o2 :: o3 :: o4 :: o5 :: o6 :: o7 :: o8 :: o9 :: u :: r) (.inr (.inr k) :: st) S T := by
  obtain ⟨rfl, h1⟩ := zi_step hi
  refine zt_next ((h1 L _ _ _).trans ?_) h
  simp only [z_ex]
  rw [if_pos (by simp)]
  rfl
theorem zr_5c_10 {o0 o1 o2 o3 o4 o5 o6 o7 o8 o9 : Option zV} {r : List (Option zV)} (hi : zi m pc np 5 10 b) (hv : Int32.ofInt b = c) (hx : x + c = v) (h : zt L m np (o0 :: o1 :: o2 :: o3 :: o4 :: o5 :: o6 :: o7 :: o8 :: o9 :: some (.inl v) :: r) st S T) : zt L m pc (o0 :: o1 :: o2 :: o3 :: o4 :: o5 :: o6 :: o7 :: o8 :: o9 :: some (.inl x) :: r) st S T := by
  obtain ⟨rfl, h1⟩ := zi_step hi
  subst hv hx
  exact zt_next ((h1 L _ _ _).trans rfl) h
theorem zr_5_10 {o0 o1 o2 o3 o4 o5 o6 o7 o8 o9 : Option zV} {r : List (Option zV)} (hi : zi m pc np 5 10 b) (hv : Int32.ofInt b = c) (h : zt L m np (o0 :: o1 :: o2 :: o3 :: o4 :: o5 :: o6 :: o7 :: o8 :: o9 :: some (.inl (x + c)) :: r) st S T) : zt L m pc (o0 :: o1 :: o2 :: o3 :: o4 :: o5 :: o6 :: o7 :: o8 :: o9 :: some (.inl x) :: r) st S T := by
  obtain ⟨rfl, h1⟩ := zi_step hi
  subst hv
  exact zt_next ((h1 L _ _ _).trans rfl) h
theorem zr_1_11 {o0 o1 o2 o3 o4 o5 o6 o7 o8 o9 o10 : Option zV} {r : List (Option zV)} (hi : zi m pc np 1 11 b) (h : zt L m np (o0 :: o1 :: o2 :: o3 :: o4 :: o5 :: o6 :: o7 :: o8 :: o9 :: o10 :: some (.inl x) :: r) (.inl x :: st) S T) : zt L m pc (o0 :: o1 :: o2 :: o3 :: o4 :: o5 :: o6 :: o7 :: o8 :: o9 :: o10 :: some (.inl x) :: r) st S T := by
  obtain ⟨rfl, h1⟩ := zi_step hi
  exact zt_next ((h1 L _ _ _).trans rfl) h
theorem zr_2_11 {o0 o1 o2 o3 o4 o5 o6 o7 o8 o9 o10 : Option zV} {r : List (Option zV)} (hi : zi m pc np 2 11 b) (h : zt L m np (o0 :: o1 :: o2 :: o3 :: o4 :: o5 :: o6 :: o7 :: o8 :: o9 :: o10 :: some (.inr (.inr k)) :: r) (.inr (.inr k) :: st) S T) : zt L m pc (o0 :: o1 :: o2 :: o3 :: o4 :: o5 :: o6 :: o7 :: o8 :: o9 :: o10 :: some (.inr (.inr k)) :: r) st S T := by
  obtain ⟨rfl, h1⟩ := zi_step hi
  exact zt_next ((h1 L _ _ _).trans rfl) h
theorem zr_3_11 {o0 o1 o2 o3 o4 o5 o6 o7 o8 o9 o10 : Option zV} {u : Option zV} {r : List (Option zV)} (hi : zi m pc np 3 11 b) (h : zt L m np (o0 :: o1 :: o2 :: o3 :: o4 :: o5 :: o6 :: o7 :: o8 :: o9 :: o10 :: some (.inl x) :: r) st S T) : zt L m pc (o0 :: o1 :: o2 :: o3 :: o4 :: o5 :: o6 :: o7 :: o8 :: o9 :: o10 :: u :: r) (.inl x :: st) S T := by
  obtain ⟨rfl, h1⟩ := zi_step hi
  refine zt_next ((h1 L _ _ _).trans ?_) h
  simp only [z_ex]
  rw [if_pos (by simp)]
  rfl
theorem zr_4_11 {o0 o1 o2 o3 o4 o5 o6 o7 o8 o9 o10 : Option zV} {u : Option zV} {r : List (Option zV)} (hi : zi m pc np 4 11 b) (h : zt L m np (o0 :: o1 :: o2 :: o3 :: o4 :: o5 :: o6 :: o7 :: o8 :: o9 :: o10 :: some (.inr (.inr k)) :: r) st S T) : zt L m pc (o0 :: o1 :: o2 :: o3 :: o4 :: o5 :: o6 :: o7 :: o8 :: o9 :: o10 :: u :: r) (.inr (.inr k) :: st) S T := by
  obtain ⟨rfl, h1⟩ := zi_step hi
  refine zt_next ((h1 L _ _ _).trans ?_) h
  simp only [z_ex]
  rw [if_pos (by simp)]
  rfl
theorem zr_5c_11 {o0 o1 o2 o3 o4 o5 o6 o7 o8 o9 o10 : Option zV} {r : List (Option zV)} (hi : zi m pc np 5 11 b) (hv : Int32.ofInt b = c) (hx : x + c = v) (h : zt L m np (o0 :: o1 :: o2 :: o3 :: o4 :: o5 :: o6 :: o7 :: o8 :: o9 :: o10 :: some (.inl v) :: r) st S T) : zt L m pc (o0 :: o1 :: o2 :: o3 :: o4 :: o5 :: o6 :: o7 :: o8 :: o9 :: o10 :: some (.inl x) :: r) st S T := by
  obtain ⟨rfl, h1⟩ := zi_step hi
  subst hv hx
  exact zt_next ((h1 L _ _ _).trans rfl) h
theorem zr_5_11 {o0 o1 o2 o3 o4 o5 o6 o7 o8 o9 o10 : Option zV} {r : List (Option zV)} (hi : zi m pc np 5 11 b) (hv : Int32.ofInt b = c) (h : zt L m np (o0 :: o1 :: o2 :: o3 :: o4 :: o5 :: o6 :: o7 :: o8 :: o9 :: o10 :: some (.inl (x + c)) :: r) st S T) : zt L m pc (o0 :: o1 :: o2 :: o3 :: o4 :: o5 :: o6 :: o7 :: o8 :: o9 :: o10 :: some (.inl x) :: r) st S T := by
  obtain ⟨rfl, h1⟩ := zi_step hi
  subst hv
  exact zt_next ((h1 L _ _ _).trans rfl) h
theorem zr_1_12 {o0 o1 o2 o3 o4 o5 o6 o7 o8 o9 o10 o11 : Option zV} {r : List (Option zV)} (hi : zi m pc np 1 12 b) (h : zt L m np (o0 :: o1 :: o2 :: o3 :: o4 :: o5 :: o6 :: o7 :: o8 :: o9 :: o10 :: o11 :: some (.inl x) :: r) (.inl x :: st) S T) : zt L m pc (o0 :: o1 :: o2 :: o3 :: o4 :: o5 :: o6 :: o7 :: o8 :: o9 :: o10 :: o11 :: some (.inl x) :: r) st S T := by
  obtain ⟨rfl, h1⟩ := zi_step hi
  exact zt_next ((h1 L _ _ _).trans rfl) h
theorem zr_2_12 {o0 o1 o2 o3 o4 o5 o6 o7 o8 o9 o10 o11 : Option zV} {r : List (Option zV)} (hi : zi m pc np 2 12 b) (h : zt L m np (o0 :: o1 :: o2 :: o3 :: o4 :: o5 :: o6 :: o7 :: o8 :: o9 :: o10 :: o11 :: some (.inr (.inr k)) :: r) (.inr (.inr k) :: st) S T) : zt L m pc (o0 :: o1 :: o2 :: o3 :: o4 :: o5 :: o6 :: o7 :: o8 :: o9 :: o10 :: o11 :: some (.inr (.inr k)) :: r) st S T := by
  obtain ⟨rfl, h1⟩ := zi_step hi
  exact zt_next ((h1 L _ _ _).trans rfl) h
theorem zr_3_12 {o0 o1 o2 o3 o4 o5 o6 o7 o8 o9 o10 o11 : Option zV} {u : Option zV} {r : List (Option zV)} (hi : zi m pc np 3 12 b) (h : zt L m np (o0 :: o1 :: o2 :: o3 :: o4 :: o5 :: o6 :: o7 :: o8 :: o9 :: o10 :: o11 :: some (.inl x) :: r) st S T) : zt L m pc (o0 :: o1 :: o2 :: o3 :: o4 :: o5 :: o6 :: o7 :: o8 :: o9 :: o10 :: o11 :: u :: r) (.inl x :: st) S T := by
  obtain ⟨rfl, h1⟩ := zi_step hi
  refine zt_next ((h1 L _ _ _).trans ?_) h
  simp only [z_ex]
  rw [if_pos (by simp)]
  rfl
theorem zr_4_12 {o0 o1 o2 o3 o4 o5 o6 o7 o8 o9 o10 o11 : Option zV} {u : Option zV} {r : List (Option zV)} (hi : zi m pc np 4 12 b) (h : zt L m np (o0 :: o1 :: o2 :: o3 :: o4 :: o5 :: o6 :: o7 :: o8 :: o9 :: o10 :: o11 :: some (.inr (.inr k)) :: r) st S T) : zt L m pc (o0 :: o1 :: o2 :: o3 :: o4 :: o5 :: o6 :: o7 :: o8 :: o9 :: o10 :: o11 :: u :: r) (.inr (.inr k) :: st) S T := by
  obtain ⟨rfl, h1⟩ := zi_step hi
  refine zt_next ((h1 L _ _ _).trans ?_) h
  simp only [z_ex]
  rw [if_pos (by simp)]
  rfl
theorem zr_5c_12 {o0 o1 o2 o3 o4 o5 o6 o7 o8 o9 o10 o11 : Option zV} {r : List (Option zV)} (hi : zi m pc np 5 12 b) (hv : Int32.ofInt b = c) (hx : x + c = v) (h : zt L m np (o0 :: o1 :: o2 :: o3 :: o4 :: o5 :: o6 :: o7 :: o8 :: o9 :: o10 :: o11 :: some (.inl v) :: r) st S T) : zt L m pc (o0 :: o1 :: o2 :: o3 :: o4 :: o5 :: o6 :: o7 :: o8 :: o9 :: o10 :: o11 :: some (.inl x) :: r) st S T := by
  obtain ⟨rfl, h1⟩ := zi_step hi
  subst hv hx
  exact zt_next ((h1 L _ _ _).trans rfl) h
theorem zr_5_12 {o0 o1 o2 o3 o4 o5 o6 o7 o8 o9 o10 o11 : Option zV} {r : List (Option zV)} (hi : zi m pc np 5 12 b) (hv : Int32.ofInt b = c) (h : zt L m np (o0 :: o1 :: o2 :: o3 :: o4 :: o5 :: o6 :: o7 :: o8 :: o9 :: o10 :: o11 :: some (.inl (x + c)) :: r) st S T) : zt L m pc (o0 :: o1 :: o2 :: o3 :: o4 :: o5 :: o6 :: o7 :: o8 :: o9 :: o10 :: o11 :: some (.inl x) :: r) st S T := by
  obtain ⟨rfl, h1⟩ := zi_step hi
  subst hv
  exact zt_next ((h1 L _ _ _).trans rfl) h
theorem zr_6 (hi : zi m pc np 6 a b) (hf : zfl k a b s none) (hv : S k s = v) (h : zt L m np lv (.inl v :: st) S T) : zt L m pc lv (.inr (.inr k) :: st) S T := by
  obtain ⟨rfl, h1⟩ := zi_step hi
  obtain ⟨fk, e1, e2, e3⟩ := zfl_un hf
  subst hv e3
  refine zt_next ((h1 L _ _ _).trans ?_) h
  simp only [z_ex, e1, e2, if_true]
theorem zr_6r (hi : zi m pc np 6 a b) (hf : zfl k a b s (some j)) (h : zt L m np lv (.inr (.inr j) :: st) S T) : zt L m pc lv (.inr (.inr k) :: st) S T := by
  obtain ⟨rfl, h1⟩ := zi_step hi
  obtain ⟨fk, e1, e2, e3⟩ := zfl_un hf
  refine zt_next ((h1 L _ _ _).trans ?_) h
  simp only [z_ex, e1, e2, if_true]
theorem zr_7 (hi : zi m pc np 7 a b) (hf : zfl k a b s none) (h : zt L m np lv st (z_up S k s x) T) : zt L m pc lv (.inl x :: .inr (.inr k) :: st) S T := by
  obtain ⟨rfl, h1⟩ := zi_step hi
  obtain ⟨fk, e1, e2, e3⟩ := zfl_un hf
  subst e3
  refine zt_next ((h1 L _ _ _).trans ?_) h
  simp only [z_ex, e1, e2, if_true]
theorem zr_33 (hi : zi m pc np 33 a b) (hf : zfl k a b s none) (ho : zo x) (h : zt L m np lv st (z_up S k s x) T) : zt L m pc lv (.inl x :: .inr (.inr k) :: st) S T := by
  obtain ⟨rfl, h1⟩ := zi_step hi
  obtain ⟨fk, e1, e2, e3⟩ := zfl_un hf
  subst e3
  refine zt_next ((h1 L _ _ _).trans ?_) h
  unfold zo at ho
  simp only [z_ex, e1, e2, if_true, ho]
theorem zr_8 (hi : zi m pc np 8 a b) (ha : zar k 0 n) (hg : zx n i) (hj : i.toNatClampNeg = j) (hv : S k j = v) (h : zt L m np lv (.inl v :: st) S T) : zt L m pc lv (.inl i :: .inr (.inr k) :: st) S T := by
  obtain ⟨rfl, h1⟩ := zi_step hi
  obtain ⟨e1, e2⟩ := zar_un ha
  subst hv hj
  refine zt_next ((h1 L _ _ _).trans ?_) h
  unfold zx at hg
  simp only [z_ex, e1, if_neg e2, if_true, if_neg hg]
theorem zr_8s (hi : zi m pc np 8 a b) (hg : zx L i) (h : zt L m np lv (.inl (S 1000 i.toNatClampNeg) :: st) S T) : zt L m pc lv (.inl i :: .inr (.inr 1000) :: st) S T := by
  obtain ⟨rfl, h1⟩ := zi_step hi
  refine zt_next ((h1 L _ _ _).trans ?_) h
  unfold zx at hg
  simp only [z_ex, if_true, if_neg hg]
theorem zr_8v (hi : zi m pc np 8 a b) (hg : zx L i) (hv : S 1000 i.toNatClampNeg = v) (h : zt L m np lv (.inl v :: st) S T) : zt L m pc lv (.inl i :: .inr (.inr 1000) :: st) S T := zr_8s hi hg (by rw [hv]; exact h)
theorem zr_9 (hi : zi m pc np 9 a b) (ha : zar k 1 n) (hg : zx n i) (hj : i.toNatClampNeg = j) (hv : S k j = v) (h : zt L m np lv (.inl v :: st) S T) : zt L m pc lv (.inl i :: .inr (.inr k) :: st) S T := by
  obtain ⟨rfl, h1⟩ := zi_step hi
  obtain ⟨e1, e2⟩ := zar_un ha
  subst hv hj
  refine zt_next ((h1 L _ _ _).trans ?_) h
  unfold zx at hg
  simp only [z_ex, e1, if_true, if_neg hg]
theorem zr_10 (hi : zi m pc np 10 a b) (ha : zar k 0 n) (hg : zx n i) (hj : i.toNatClampNeg = j) (h : zt L m np lv st (z_up S k j x) T) : zt L m pc lv (.inl x :: .inl i :: .inr (.inr k) :: st) S T := by
  obtain ⟨rfl, h1⟩ := zi_step hi
  obtain ⟨e1, e2⟩ := zar_un ha
  subst hj
  refine zt_next ((h1 L _ _ _).trans ?_) h
  unfold zx at hg
  simp only [z_ex, e1, if_true, if_neg hg]
theorem zr_11 (hi : zi m pc np 11 a b) (ha : zar k 1 n) (hg : zx n i) (ho : zo x) (hj : i.toNatClampNeg = j) (h : zt L m np lv st (z_up S k j x) T) : zt L m pc lv (.inl x :: .inl i :: .inr (.inr k) :: st) S T := by
  obtain ⟨rfl, h1⟩ := zi_step hi
  obtain ⟨e1, e2⟩ := zar_un ha
  subst hj
  refine zt_next ((h1 L _ _ _).trans ?_) h
  unfold zx at hg
  unfold zo at ho
  simp only [z_ex, e1, if_true, if_neg hg, ho]
theorem zr_12 {t : Nat} (hi : zi m pc np 12 a b) (ha : zar k t n) (hv : Int32.ofNat n = v) (h : zt L m np lv (.inl v :: st) S T) : zt L m pc lv (.inr (.inr k) :: st) S T := by
  obtain ⟨rfl, h1⟩ := zi_step hi
  obtain ⟨e1, e2⟩ := zar_un ha
  subst hv
  refine zt_next ((h1 L _ _ _).trans ?_) h
  simp only [z_ex, e1, if_neg e2]
theorem zr_12s (hi : zi m pc np 12 a b) (h : zt L m np lv (.inl (Int32.ofNat L) :: st) S T) : zt L m pc lv (.inr (.inr 1000) :: st) S T := by
  obtain ⟨rfl, h1⟩ := zi_step hi
  exact zt_next ((h1 L _ _ _).trans rfl) h
theorem zr_13 (hi : zi m pc np 13 a b) (hv : z_bin a x y = some v) (h : zt L m np lv (.inl v :: st) S T) : zt L m pc lv (.inl y :: .inl x :: st) S T := by
  obtain ⟨rfl, h1⟩ := zi_step hi
  refine zt_next ((h1 L _ _ _).trans ?_) h
  simp only [z_ex, hv]
theorem zr_13_0 (hi : zi m pc np 13 0 b) (h : zt L m np lv (.inl (x + y) :: st) S T) : zt L m pc lv (.inl y :: .inl x :: st) S T := zr_13 hi rfl h
theorem zr_13_1 (hi : zi m pc np 13 1 b) (h : zt L m np lv (.inl (x - y) :: st) S T) : zt L m pc lv (.inl y :: .inl x :: st) S T := zr_13 hi rfl h
theorem zr_13_2 (hi : zi m pc np 13 2 b) (h : zt L m np lv (.inl (x * y) :: st) S T) : zt L m pc lv (.inl y :: .inl x :: st) S T := zr_13 hi rfl h
theorem zr_13_5 (hi : zi m pc np 13 5 b) (h : zt L m np lv (.inl (x &&& y) :: st) S T) : zt L m pc lv (.inl y :: .inl x :: st) S T := zr_13 hi rfl h
theorem zr_13_6 (hi : zi m pc np 13 6 b) (h : zt L m np lv (.inl (x ||| y) :: st) S T) : zt L m pc lv (.inl y :: .inl x :: st) S T := zr_13 hi rfl h
theorem zr_13_7 (hi : zi m pc np 13 7 b) (h : zt L m np lv (.inl (x ^^^ y) :: st) S T) : zt L m pc lv (.inl y :: .inl x :: st) S T := zr_13 hi rfl h
theorem zr_13_8 (hi : zi m pc np 13 8 b) (h : zt L m np lv (.inl (zshl x y) :: st) S T) : zt L m pc lv (.inl y :: .inl x :: st) S T := zr_13 hi rfl h
theorem zr_13_9 (hi : zi m pc np 13 9 b) (h : zt L m np lv (.inl (zshr x y) :: st) S T) : zt L m pc lv (.inl y :: .inl x :: st) S T := zr_13 hi rfl h
theorem zr_13_10 (hi : zi m pc np 13 10 b) (h : zt L m np lv (.inl (zushr x y) :: st) S T) : zt L m pc lv (.inl y :: .inl x :: st) S T := zr_13 hi rfl h
theorem zr_13_3 (hi : zi m pc np 13 3 b) (hy : y ≠ 0) (h : zt L m np lv (.inl (x / y) :: st) S T) : zt L m pc lv (.inl y :: .inl x :: st) S T := zr_13 hi (if_neg hy) h
theorem zr_13_4 (hi : zi m pc np 13 4 b) (hy : y ≠ 0) (h : zt L m np lv (.inl (zrem x y) :: st) S T) : zt L m pc lv (.inl y :: .inl x :: st) S T := zr_13 hi (if_neg hy) h
theorem zr_14 (hi : zi m pc np 14 a b) (h : zt L m np lv (.inl x :: .inl x :: st) S T) : zt L m pc lv (.inl x :: st) S T := by
  obtain ⟨rfl, h1⟩ := zi_step hi
  exact zt_next ((h1 L _ _ _).trans rfl) h
theorem zr_14r (hi : zi m pc np 14 a b) (h : zt L m np lv (.inr (.inr k) :: .inr (.inr k) :: st) S T) : zt L m pc lv (.inr (.inr k) :: st) S T := by
  obtain ⟨rfl, h1⟩ := zi_step hi
  exact zt_next ((h1 L _ _ _).trans rfl) h
theorem zr_15 (hi : zi m pc np 15 a b) (h : zt L m np lv (.inl x :: .inr (.inr k) :: .inl x :: .inr (.inr k) :: st) S T) : zt L m pc lv (.inl x :: .inr (.inr k) :: st) S T := by
  obtain ⟨rfl, h1⟩ := zi_step hi
  exact zt_next ((h1 L _ _ _).trans rfl) h
theorem zr_16 (hi : zi m pc np 16 a b) (h : zt L m np lv st S T) : zt L m pc lv (.inl x :: st) S T := by
  obtain ⟨rfl, h1⟩ := zi_step hi
  exact zt_next ((h1 L _ _ _).trans rfl) h
theorem zr_17 (hi : zi m pc np 17 a b) (h : zt L m a lv st S T) : zt L m pc lv st S T := by
  obtain ⟨rfl, h1⟩ := zi_step hi
  exact zt_next ((h1 L _ _ _).trans rfl) h
theorem zg_br {q : Nat} {P : Prop} [Decidable P] {A B : Option zO} {ca cb : zCfg} (hs : z_step L m (pc, lv, st, S) = if P then A else B) (hA : A = some (.inl ca)) (hB : B = some (.inl cb)) (h1 : P → zt L m ca.1 ca.2.1 ca.2.2.1 ca.2.2.2 T1) (h2 : ¬ P → zt L m cb.1 cb.2.1 cb.2.2.1 cb.2.2.2 T2) : zt L m pc lv st S (if P then T1 else T2) := by
  by_cases h : P
  · rw [if_pos h]; rw [if_pos h, hA] at hs; exact zt_next hs (h1 h)
  · rw [if_neg h]; rw [if_neg h, hB] at hs; exact zt_next hs (h2 h)
theorem zr_18_0 (hi : zi m pc np 18 a 0) (h1 : x = 0 → zt L m a lv st S T1) (h2 : ¬ (x = 0) → zt L m np lv st S T2) : zt L m pc lv (.inl x :: st) S (if x = 0 then T1 else T2) := by
  obtain ⟨rfl, e1⟩ := zi_step hi
  exact zg_br (q := 0) ((e1 L _ _ _).trans rfl) rfl rfl h1 h2
theorem zr_18_1 (hi : zi m pc np 18 a 1) (h1 : x = 0 → zt L m np lv st S T1) (h2 : ¬ (x = 0) → zt L m a lv st S T2) : zt L m pc lv (.inl x :: st) S (if x = 0 then T1 else T2) := by
  obtain ⟨rfl, e1⟩ := zi_step hi
  exact zg_br (q := 0) ((e1 L _ _ _).trans rfl) rfl rfl h1 h2
theorem zr_18_2 (hi : zi m pc np 18 a 2) (h1 : x < 0 → zt L m a lv st S T1) (h2 : ¬ (x < 0) → zt L m np lv st S T2) : zt L m pc lv (.inl x :: st) S (if x < 0 then T1 else T2) := by
  obtain ⟨rfl, e1⟩ := zi_step hi
  exact zg_br (q := 0) ((e1 L _ _ _).trans rfl) rfl rfl h1 h2
theorem zr_18_3 (hi : zi m pc np 18 a 3) (h1 : 0 ≤ x → zt L m a lv st S T1) (h2 : ¬ (0 ≤ x) → zt L m np lv st S T2) : zt L m pc lv (.inl x :: st) S (if 0 ≤ x then T1 else T2) := by
  obtain ⟨rfl, e1⟩ := zi_step hi
  exact zg_br (q := 0) ((e1 L _ _ _).trans rfl) rfl rfl h1 h2
theorem zr_18_4 (hi : zi m pc np 18 a 4) (h1 : 0 < x → zt L m a lv st S T1) (h2 : ¬ (0 < x) → zt L m np lv st S T2) : zt L m pc lv (.inl x :: st) S (if 0 < x then T1 else T2) := by
  obtain ⟨rfl, e1⟩ := zi_step hi
  exact zg_br (q := 0) ((e1 L _ _ _).trans rfl) rfl rfl h1 h2
theorem zr_18_5 (hi : zi m pc np 18 a 5) (h1 : x ≤ 0 → zt L m a lv st S T1) (h2 : ¬ (x ≤ 0) → zt L m np lv st S T2) : zt L m pc lv (.inl x :: st) S (if x ≤ 0 then T1 else T2) := by
  obtain ⟨rfl, e1⟩ := zi_step hi
  exact zg_br (q := 0) ((e1 L _ _ _).trans rfl) rfl rfl h1 h2
theorem zr_19_0 (hi : zi m pc np 19 a 0) (h1 : x = y → zt L m a lv st S T1) (h2 : ¬ (x = y) → zt L m np lv st S T2) : zt L m pc lv (.inl y :: .inl x :: st) S (if x = y then T1 else T2) := by
  obtain ⟨rfl, e1⟩ := zi_step hi
  exact zg_br (q := 0) ((e1 L _ _ _).trans rfl) rfl rfl h1 h2
theorem zr_19_1 (hi : zi m pc np 19 a 1) (h1 : x = y → zt L m np lv st S T1) (h2 : ¬ (x = y) → zt L m a lv st S T2) : zt L m pc lv (.inl y :: .inl x :: st) S (if x = y then T1 else T2) := by
  obtain ⟨rfl, e1⟩ := zi_step hi
  exact zg_br (q := 0) ((e1 L _ _ _).trans rfl) rfl rfl h1 h2
theorem zr_19_2 (hi : zi m pc np 19 a 2) (h1 : x < y → zt L m a lv st S T1) (h2 : ¬ (x < y) → zt L m np lv st S T2) : zt L m pc lv (.inl y :: .inl x :: st) S (if x < y then T1 else T2) := by
  obtain ⟨rfl, e1⟩ := zi_step hi
  exact zg_br (q := 0) ((e1 L _ _ _).trans rfl) rfl rfl h1 h2
theorem zr_19_3 (hi : zi m pc np 19 a 3) (h1 : y ≤ x → zt L m a lv st S T1) (h2 : ¬ (y ≤ x) → zt L m np lv st S T2) : zt L m pc lv (.inl y :: .inl x :: st) S (if y ≤ x then T1 else T2) := by
  obtain ⟨rfl, e1⟩ := zi_step hi
  exact zg_br (q := 0) ((e1 L _ _ _).trans rfl) rfl rfl h1 h2
theorem zr_19_4 (hi : zi m pc np 19 a 4) (h1 : y < x → zt L m a lv st S T1) (h2 : ¬ (y < x) → zt L m np lv st S T2) : zt L m pc lv (.inl y :: .inl x :: st) S (if y < x then T1 else T2) := by
  obtain ⟨rfl, e1⟩ := zi_step hi
  exact zg_br (q := 0) ((e1 L _ _ _).trans rfl) rfl rfl h1 h2
theorem zr_19_5 (hi : zi m pc np 19 a 5) (h1 : x ≤ y → zt L m a lv st S T1) (h2 : ¬ (x ≤ y) → zt L m np lv st S T2) : zt L m pc lv (.inl y :: .inl x :: st) S (if x ≤ y then T1 else T2) := by
  obtain ⟨rfl, e1⟩ := zi_step hi
  exact zg_br (q := 0) ((e1 L _ _ _).trans rfl) rfl rfl h1 h2
theorem zr_18t_0 (hi : zi m pc np 18 a 0) (hc : x = 0) (h : zt L m a lv st S T) : zt L m pc lv (.inl x :: st) S T := zt_cast (zr_18_0 hi (T1 := T) (T2 := T) (fun _ => h) (fun h9 => absurd hc h9)) (ite_self _)
theorem zr_18f_0 (hi : zi m pc np 18 a 0) (hc : ¬ (x = 0)) (h : zt L m np lv st S T) : zt L m pc lv (.inl x :: st) S T := zt_cast (zr_18_0 hi (T1 := T) (T2 := T) (fun h9 => absurd h9 hc) (fun _ => h)) (ite_self _)
theorem zr_18t_1 (hi : zi m pc np 18 a 1) (hc : ¬ (x = 0)) (h : zt L m a lv st S T) : zt L m pc lv (.inl x :: st) S T := zt_cast (zr_18_1 hi (T1 := T) (T2 := T) (fun h9 => absurd h9 hc) (fun _ => h)) (ite_self _)
theorem zr_18f_1 (hi : zi m pc np 18 a 1) (hc : x = 0) (h : zt L m np lv st S T) : zt L m pc lv (.inl x :: st) S T := zt_cast (zr_18_1 hi (T1 := T) (T2 := T) (fun _ => h) (fun h9 => absurd hc h9)) (ite_self _)
theorem zr_18t_2 (hi : zi m pc np 18 a 2) (hc : x < 0) (h : zt L m a lv st S T) : zt L m pc lv (.inl x :: st) S T := zt_cast (zr_18_2 hi (T1 := T) (T2 := T) (fun _ => h) (fun h9 => absurd hc h9)) (ite_self _)
theorem zr_18f_2 (hi : zi m pc np 18 a 2) (hc : ¬ (x < 0)) (h : zt L m np lv st S T) : zt L m pc lv (.inl x :: st) S T := zt_cast (zr_18_2 hi (T1 := T) (T2 := T) (fun h9 => absurd h9 hc) (fun _ => h)) (ite_self _)
theorem zr_18t_3 (hi : zi m pc np 18 a 3) (hc : 0 ≤ x) (h : zt L m a lv st S T) : zt L m pc lv (.inl x :: st) S T := zt_cast (zr_18_3 hi (T1 := T) (T2 := T) (fun _ => h) (fun h9 => absurd hc h9)) (ite_self _)
theorem zr_18f_3 (hi : zi m pc np 18 a 3) (hc : ¬ (0 ≤ x)) (h : zt L m np lv st S T) : zt L m pc lv (.inl x :: st) S T := zt_cast (zr_18_3 hi (T1 := T) (T2 := T) (fun h9 => absurd h9 hc) (fun _ => h)) (ite_self _)
theorem zr_18t_4 (hi : zi m pc np 18 a 4) (hc : 0 < x) (h : zt L m a lv st S T) : zt L m pc lv (.inl x :: st) S T := zt_cast (zr_18_4 hi (T1 := T) (T2 := T) (fun _ => h) (fun h9 => absurd hc h9)) (ite_self _)
theorem zr_18f_4 (hi : zi m pc np 18 a 4) (hc : ¬ (0 < x)) (h : zt L m np lv st S T) : zt L m pc lv (.inl x :: st) S T := zt_cast (zr_18_4 hi (T1 := T) (T2 := T) (fun h9 => absurd h9 hc) (fun _ => h)) (ite_self _)
theorem zr_18t_5 (hi : zi m pc np 18 a 5) (hc : x ≤ 0) (h : zt L m a lv st S T) : zt L m pc lv (.inl x :: st) S T := zt_cast (zr_18_5 hi (T1 := T) (T2 := T) (fun _ => h) (fun h9 => absurd hc h9)) (ite_self _)
theorem zr_18f_5 (hi : zi m pc np 18 a 5) (hc : ¬ (x ≤ 0)) (h : zt L m np lv st S T) : zt L m pc lv (.inl x :: st) S T := zt_cast (zr_18_5 hi (T1 := T) (T2 := T) (fun h9 => absurd h9 hc) (fun _ => h)) (ite_self _)
theorem zr_19t_0 (hi : zi m pc np 19 a 0) (hc : x = y) (h : zt L m a lv st S T) : zt L m pc lv (.inl y :: .inl x :: st) S T := zt_cast (zr_19_0 hi (T1 := T) (T2 := T) (fun _ => h) (fun h9 => absurd hc h9)) (ite_self _)
theorem zr_19f_0 (hi : zi m pc np 19 a 0) (hc : ¬ (x = y)) (h : zt L m np lv st S T) : zt L m pc lv (.inl y :: .inl x :: st) S T := zt_cast (zr_19_0 hi (T1 := T) (T2 := T) (fun h9 => absurd h9 hc) (fun _ => h)) (ite_self _)
theorem zr_19t_1 (hi : zi m pc np 19 a 1) (hc : ¬ (x = y)) (h : zt L m a lv st S T) : zt L m pc lv (.inl y :: .inl x :: st) S T := zt_cast (zr_19_1 hi (T1 := T) (T2 := T) (fun h9 => absurd h9 hc) (fun _ => h)) (ite_self _)
theorem zr_19f_1 (hi : zi m pc np 19 a 1) (hc : x = y) (h : zt L m np lv st S T) : zt L m pc lv (.inl y :: .inl x :: st) S T := zt_cast (zr_19_1 hi (T1 := T) (T2 := T) (fun _ => h) (fun h9 => absurd hc h9)) (ite_self _)
theorem zr_19t_2 (hi : zi m pc np 19 a 2) (hc : x < y) (h : zt L m a lv st S T) : zt L m pc lv (.inl y :: .inl x :: st) S T := zt_cast (zr_19_2 hi (T1 := T) (T2 := T) (fun _ => h) (fun h9 => absurd hc h9)) (ite_self _)
theorem zr_19f_2 (hi : zi m pc np 19 a 2) (hc : ¬ (x < y)) (h : zt L m np lv st S T) : zt L m pc lv (.inl y :: .inl x :: st) S T := zt_cast (zr_19_2 hi (T1 := T) (T2 := T) (fun h9 => absurd h9 hc) (fun _ => h)) (ite_self _)
theorem zr_19t_3 (hi : zi m pc np 19 a 3) (hc : y ≤ x) (h : zt L m a lv st S T) : zt L m pc lv (.inl y :: .inl x :: st) S T := zt_cast (zr_19_3 hi (T1 := T) (T2 := T) (fun _ => h) (fun h9 => absurd hc h9)) (ite_self _)
theorem zr_19f_3 (hi : zi m pc np 19 a 3) (hc : ¬ (y ≤ x)) (h : zt L m np lv st S T) : zt L m pc lv (.inl y :: .inl x :: st) S T := zt_cast (zr_19_3 hi (T1 := T) (T2 := T) (fun h9 => absurd h9 hc) (fun _ => h)) (ite_self _)
theorem zr_19t_4 (hi : zi m pc np 19 a 4) (hc : y < x) (h : zt L m a lv st S T) : zt L m pc lv (.inl y :: .inl x :: st) S T := zt_cast (zr_19_4 hi (T1 := T) (T2 := T) (fun _ => h) (fun h9 => absurd hc h9)) (ite_self _)
theorem zr_19f_4 (hi : zi m pc np 19 a 4) (hc : ¬ (y < x)) (h : zt L m np lv st S T) : zt L m pc lv (.inl y :: .inl x :: st) S T := zt_cast (zr_19_4 hi (T1 := T) (T2 := T) (fun h9 => absurd h9 hc) (fun _ => h)) (ite_self _)
theorem zr_19t_5 (hi : zi m pc np 19 a 5) (hc : x ≤ y) (h : zt L m a lv st S T) : zt L m pc lv (.inl y :: .inl x :: st) S T := zt_cast (zr_19_5 hi (T1 := T) (T2 := T) (fun _ => h) (fun h9 => absurd hc h9)) (ite_self _)
theorem zr_19f_5 (hi : zi m pc np 19 a 5) (hc : ¬ (x ≤ y)) (h : zt L m np lv st S T) : zt L m pc lv (.inl y :: .inl x :: st) S T := zt_cast (zr_19_5 hi (T1 := T) (T2 := T) (fun h9 => absurd h9 hc) (fun _ => h)) (ite_self _)
theorem zr_18b_0 {P : Prop} [Decidable P] (hi : zi m pc np 18 a 0) (h1 : P → zt L m np lv st S T1) (h2 : ¬ P → zt L m a lv st S T2) : zt L m pc lv (.inl (zb P) :: st) S (if P then T1 else T2) := by
  refine zt_cast (zr_18_0 hi (T1 := T2) (T2 := T1) (fun h => h2 (by rwa [zb_0] at h)) (fun h => h1 (by rw [zb_0] at h; exact Decidable.not_not.mp h))) ?_
  by_cases h : P <;> simp [h, zb_0]
theorem zr_18b_1 {P : Prop} [Decidable P] (hi : zi m pc np 18 a 1) (h1 : P → zt L m a lv st S T1) (h2 : ¬ P → zt L m np lv st S T2) : zt L m pc lv (.inl (zb P) :: st) S (if P then T1 else T2) := by
  refine zt_cast (zr_18_1 hi (T1 := T2) (T2 := T1) (fun h => h2 (by rwa [zb_0] at h)) (fun h => h1 (by rw [zb_0] at h; exact Decidable.not_not.mp h))) ?_
  by_cases h : P <;> simp [h, zb_0]
theorem zr_23 (hi : zi m pc np 23 a b) (hc : Nat.ble (z_cats st) 8 = true) (h : zt L m np lv (.inl (zmax x y) :: st) S T) : zt L m pc lv (.inl y :: .inl x :: st) S T := by
  obtain ⟨rfl, h1⟩ := zi_step hi
  exact zt_next ((h1 L _ _ _).trans (if_pos (Nat.le_of_ble_eq_true hc))) h
theorem zr_24 (hi : zi m pc np 24 a b) (hc : Nat.ble (z_cats st) 8 = true) (h : zt L m np lv (.inl (zmin x y) :: st) S T) : zt L m pc lv (.inl y :: .inl x :: st) S T := by
  obtain ⟨rfl, h1⟩ := zi_step hi
  exact zt_next ((h1 L _ _ _).trans (if_pos (Nat.le_of_ble_eq_true hc))) h
theorem zr_34 (hi : zi m pc np 34 a b) (hc : Nat.ble (z_cats st) 8 = true) (h : zt L m np lv (.inl (x / 36) :: st) S T) : zt L m pc lv (.inl x :: st) S T := by
  obtain ⟨rfl, h1⟩ := zi_step hi
  exact zt_next ((h1 L _ _ _).trans (if_pos (Nat.le_of_ble_eq_true hc))) h
theorem zr_30 (hi : zi m pc np 30 a b) (h : zt L m np lv (.inr (.inl x) :: st) S T) : zt L m pc lv (.inl x :: st) S T := by
  obtain ⟨rfl, h1⟩ := zi_step hi
  exact zt_next ((h1 L _ _ _).trans rfl) h
theorem zr_39 (hi : zi m pc np 39 a b) (hv : Int32.ofInt b = v) (h : zt L m np lv (.inr (.inl v) :: st) S T) : zt L m pc lv st S T := by
  obtain ⟨rfl, h1⟩ := zi_step hi
  subst hv
  exact zt_next ((h1 L _ _ _).trans rfl) h
theorem zr_38 (hi : zi m pc np 38 a b) (h : zt L m np lv (.inl (lg_cmp x.toInt64 y.toInt64) :: st) S T) : zt L m pc lv (.inr (.inl y) :: .inr (.inl x) :: st) S T := by
  obtain ⟨rfl, h1⟩ := zi_step hi
  exact zt_next ((h1 L _ _ _).trans rfl) h
theorem zr_31 (hi : zi m pc np 31 a b) (ha : zar k 2 n) (hg : zx n i) (hj : i.toNatClampNeg = j) (h : zt L m np lv st (z_up S k j x) T) : zt L m pc lv (.inr (.inl x) :: .inl i :: .inr (.inr k) :: st) S T := by
  obtain ⟨rfl, h1⟩ := zi_step hi
  obtain ⟨e1, e2⟩ := zar_un ha
  subst hj
  refine zt_next ((h1 L _ _ _).trans ?_) h
  unfold zx at hg
  simp only [z_ex, e1, if_true, if_neg hg]
theorem zr_37 (hi : zi m pc np 37 a b) (ha : zar k 2 n) (hg : zx n i) (hj : i.toNatClampNeg = j) (hv : S k j = v) (h : zt L m np lv (.inr (.inl v) :: st) S T) : zt L m pc lv (.inl i :: .inr (.inr k) :: st) S T := by
  obtain ⟨rfl, h1⟩ := zi_step hi
  obtain ⟨e1, e2⟩ := zar_un ha
  subst hv hj
  refine zt_next ((h1 L _ _ _).trans ?_) h
  unfold zx at hg
  simp only [z_ex, e1, if_true, if_neg hg]
theorem zr_25 (hi : zi m pc np 25 a b) : zt L m pc lv [.inl x] S (.inr (.inl (some (.inl x)), S, 0)) := by
  obtain ⟨rfl, h1⟩ := zi_step hi
  exact ⟨1, by rw [z_run_succ, h1]; rfl⟩
theorem zr_26 (hi : zi m pc np 26 a b) (ho : zo x) : zt L m pc lv [.inl x] S (.inr (.inl (some (.inl x)), S, 0)) := by
  obtain ⟨rfl, h1⟩ := zi_step hi
  unfold zo at ho
  exact ⟨1, by rw [z_run_succ, h1]; simp only [z_ex, if_pos ho]; rfl⟩
theorem zr_27 (hi : zi m pc np 27 a b) : zt L m pc lv [] S (.inr (.inl none, S, 0)) := by
  obtain ⟨rfl, h1⟩ := zi_step hi
  exact ⟨1, by rw [z_run_succ, h1]; rfl⟩
theorem zr_28 (hi : zi m pc np 28 a b) : zt L m pc lv [.inr (.inr k)] S (.inr (.inl (some (.inr (.inr k))), S, 0)) := by
  obtain ⟨rfl, h1⟩ := zi_step hi
  exact ⟨1, by rw [z_run_succ, h1]; rfl⟩
theorem zr_29 (hi : zi m pc np 29 a b) : zt L m pc lv [] S (.inr (.inr a, S, 1)) := by
  obtain ⟨rfl, h1⟩ := zi_step hi
  exact ⟨1, by rw [z_run_succ, h1]; rfl⟩
theorem ze_3 {P Q R : Prop} [Decidable P] [Decidable Q] [Decidable R] {A B C D X Y Z : zT} (h1 : (if R then C else D) = X) (h2 : (if Q then B else X) = Y) (h3 : (if P then A else Y) = Z) : (if P then A else if Q then B else if R then C else D) = Z := by subst h1 h2 h3; rfl
theorem zr_20_3 {d t1 t2 t3 : Nat} {p1 p2 p3 : Int} {T3 T4 : zT} (hi : zi m pc np 20 a b) (hsw : z_sw.getD a (0, []) = (d, [(p1, t1), (p2, t2), (p3, t3)])) (h1 : zt L m t1 lv st S T1) (h2 : zt L m t2 lv st S T2) (h3 : zt L m t3 lv st S T3) (h4 : zt L m d lv st S T4) : zt L m pc lv (.inl x :: st) S (if x.toInt = p1 then T1 else if x.toInt = p2 then T2 else if x.toInt = p3 then T3 else T4) := by
  obtain ⟨rfl, e1⟩ := zi_step hi
  have e2 : z_step L m (pc, lv, .inl x :: st, S) = if x.toInt = p1 then some (.inl (t1, lv, st, S)) else if x.toInt = p2 then some (.inl (t2, lv, st, S)) else if x.toInt = p3 then some (.inl (t3, lv, st, S)) else some (.inl (d, lv, st, S)) := by
    rw [e1]; simp only [z_ex, hsw, z_sel]
  by_cases c1 : x.toInt = p1
  · rw [if_pos c1] at e2 ⊢; exact zt_next e2 h1
  · rw [if_neg c1] at e2 ⊢
    by_cases c2 : x.toInt = p2
    · rw [if_pos c2] at e2 ⊢; exact zt_next e2 h2
    · rw [if_neg c2] at e2 ⊢
      by_cases c3 : x.toInt = p3
      · rw [if_pos c3] at e2 ⊢; exact zt_next e2 h3
      · rw [if_neg c3] at e2 ⊢; exact zt_next e2 h4
/-! calls -/
theorem zf_of {k : Nat} {as : List zV} {lv : List (Option zV)} {o : zRes} (he : z_ent k as = lv) (h : zt L k 0 lv [] S (.inr o)) : zf L k as S o := by
  unfold zf; rw [he]; exact h
theorem zf_eq {k : Nat} {as : List zV} {S' : zS} {e : Nat} {x y : Int32} (h : zf L k as S (.inl (some (.inl x)), S', e)) (hx : x = y) : zf L k as S (.inl (some (.inl y)), S', e) := hx ▸ h
theorem zg_call {c2 : zCfg} {as : List zV} {o : zRes} {r : Option zV} (hs : z_step L m (pc, lv, st, S) = some (.inr (.inl (k, as, c2)))) (hS : c2.2.2.2 = S) (hf : zf L k as S (.inl r, S', 0)) (h : zg L m (c2.1, c2.2.1, r.toList ++ c2.2.2.1, S') o) : zg L m (pc, lv, st, S) o := by
  obtain ⟨n1, h1⟩ := hf
  obtain ⟨n2, h2⟩ := h
  refine ⟨n1 + n2 + 1, ?_⟩
  rw [z_run_succ, hs]
  show z_aft m (z_run L (n1 + n2)) c2 (z_run L (n1 + n2) k (0, z_ent k as, [], c2.2.2.2)) = some o
  rw [hS, z_run_mono h1 n2]
  unfold z_aft
  dsimp only
  rw [show n1 + n2 = n2 + n1 from Nat.add_comm _ _, z_run_mono h2 n1]
  simp
theorem zt_call {p2 : Nat} {lv2 : List (Option zV)} {st2 : List zV} {as : List zV} {r : Option zV} (hs : z_step L m (pc, lv, st, S) = some (.inr (.inl (k, as, (p2, lv2, st2, S))))) (hf : zf L k as S (.inl r, S', 0)) (h : zt L m p2 lv2 (r.toList ++ st2) S' T) : zt L m pc lv st S T := by
  rcases T with c | o
  · exact fun o ho => zg_call hs rfl hf (h o ho)
  · exact zg_call hs rfl hf h
theorem zt_callX {p2 E e : Nat} {lv2 : List (Option zV)} {st2 : List zV} {as : List zV} (hs : z_step L m (pc, lv, st, S) = some (.inr (.inl (k, as, (p2, lv2, st2, S))))) (hf : zf L k as S (.inr E, S', e)) (ht : (z_th m).isEmpty = true) : zt L m pc lv st S (.inr (.inr E, S', e)) := by
  obtain ⟨n1, h1⟩ := hf
  refine ⟨n1 + 1, ?_⟩
  rw [z_run_succ, hs]
  show z_aft m (z_run L n1) (p2, lv2, st2, S) (z_run L n1 k (0, z_ent k as, [], S)) = _
  rw [h1]
  have : z_th m = [] := List.isEmpty_iff.mp ht
  unfold z_aft
  rw [this]
  rfl
theorem zt_callH {p2 E e : Nat} {lv2 : List (Option zV)} {st2 : List zV} {as : List zV} (hs : z_step L m (pc, lv, st, S) = some (.inr (.inl (k, as, (p2, lv2, st2, S))))) (hf : zf L k as S (.inr E, S', e)) (ht : z_hd (z_th m) E = some v) : zt L m pc lv st S (.inr (.inl (some (.inl v)), S', e)) := by
  obtain ⟨n1, h1⟩ := hf
  refine ⟨n1 + 1, ?_⟩
  rw [z_run_succ, hs]
  show z_aft m (z_run L n1) (p2, lv2, st2, S) (z_run L n1 k (0, z_ent k as, [], S)) = _
  rw [h1]
  unfold z_aft
  dsimp only
  rw [ht]
theorem zs_22_0 (hi : zi m pc np 22 k b) (hn : z_na k = 0) (hc : (Nat.ble (z_cats st) 8 && ([] : List zV).all (fun v => z_cat v == 1)) = true) : z_step L m (pc, lv, st, S) = some (.inr (.inl (k, [], (np, lv, st, S)))) := by
  obtain ⟨rfl, h1⟩ := zi_step hi
  rw [Bool.and_eq_true] at hc
  rw [h1]
  simp only [z_ex, z_call, hn]
  rw [if_pos]
  · rfl
  · refine ⟨Nat.le_of_ble_eq_true hc.1, by simp, ?_⟩
    simpa [Bool.and_comm, Bool.and_assoc, Bool.and_left_comm, and_comm, and_left_comm, and_assoc] using hc.2
theorem zs_35_0 (hi : zi m pc np 35 k b) (hn : z_na k = 0) (hc : (Nat.ble (z_cats st) 8 && ([] : List zV).all (fun v => z_cat v == 1)) = true) : z_step L m (pc, lv, st, S) = some (.inr (.inl (k, [], (np, lv, st, S)))) := by
  obtain ⟨rfl, h1⟩ := zi_step hi
  rw [Bool.and_eq_true] at hc
  rw [h1]
  simp only [z_ex, z_call, hn]
  rw [if_pos]
  · rfl
  · refine ⟨Nat.le_of_ble_eq_true hc.1, by simp, ?_⟩
    simpa [Bool.and_comm, Bool.and_assoc, Bool.and_left_comm, and_comm, and_left_comm, and_assoc] using hc.2
theorem zs_21_0 (hi : zi m pc np 21 k b) (hn : z_na k = 0) (ho : zob j b) (hc : (Nat.ble (z_cats st) 8 && ([] : List zV).all (fun v => z_cat v == 1)) = true) : z_step L m (pc, lv, .inr (.inr j) :: st, S) = some (.inr (.inl (k, [.inr (.inr j)], (np, lv, st, S)))) := by
  obtain ⟨rfl, h1⟩ := zi_step hi
  obtain ⟨fk9, e1⟩ := zob_un ho
  rw [Bool.and_eq_true] at hc
  rw [h1]
  simp only [z_ex, z_call, hn, List.drop, e1, if_true]
  rw [if_pos]
  · rfl
  · refine ⟨Nat.le_of_ble_eq_true hc.1, by simp, ?_⟩
    simpa [z_cat, Bool.and_comm, Bool.and_assoc, Bool.and_left_comm, and_comm, and_left_comm, and_assoc] using hc.2
theorem zs_32_0 (hi : zi m pc np 32 k b) (hn : z_na k = 0) (ho : zob j b) (hc : (Nat.ble (z_cats st) 8 && ([] : List zV).all (fun v => z_cat v == 1)) = true) : z_step L m (pc, lv, .inr (.inr j) :: st, S) = some (.inr (.inl (k, [.inr (.inr j)], (np, lv, st, S)))) := by
  obtain ⟨rfl, h1⟩ := zi_step hi
  obtain ⟨fk9, e1⟩ := zob_un ho
  rw [Bool.and_eq_true] at hc
  rw [h1]
  simp only [z_ex, z_call, hn, List.drop, e1, if_true]
  rw [if_pos]
  · rfl
  · refine ⟨Nat.le_of_ble_eq_true hc.1, by simp, ?_⟩
    simpa [z_cat, Bool.and_comm, Bool.and_assoc, Bool.and_left_comm, and_comm, and_left_comm, and_assoc] using hc.2
theorem zs_22_1 {a0 : zV} (hi : zi m pc np 22 k b) (hn : z_na k = 1) (hc : (Nat.ble (z_cats st) 8 && ([a0] : List zV).all (fun v => z_cat v == 1)) = true) : z_step L m (pc, lv, a0 :: st, S) = some (.inr (.inl (k, [a0], (np, lv, st, S)))) := by
  obtain ⟨rfl, h1⟩ := zi_step hi
  rw [Bool.and_eq_true] at hc
  rw [h1]
  simp only [z_ex, z_call, hn]
  rw [if_pos]
  · rfl
  · refine ⟨Nat.le_of_ble_eq_true hc.1, by simp, ?_⟩
    simpa [Bool.and_comm, Bool.and_assoc, Bool.and_left_comm, and_comm, and_left_comm, and_assoc] using hc.2
theorem zs_35_1 {a0 : zV} (hi : zi m pc np 35 k b) (hn : z_na k = 1) (hc : (Nat.ble (z_cats st) 8 && ([a0] : List zV).all (fun v => z_cat v == 1)) = true) : z_step L m (pc, lv, a0 :: st, S) = some (.inr (.inl (k, [a0], (np, lv, st, S)))) := by
  obtain ⟨rfl, h1⟩ := zi_step hi
  rw [Bool.and_eq_true] at hc
  rw [h1]
  simp only [z_ex, z_call, hn]
  rw [if_pos]
  · rfl
  · refine ⟨Nat.le_of_ble_eq_true hc.1, by simp, ?_⟩
    simpa [Bool.and_comm, Bool.and_assoc, Bool.and_left_comm, and_comm, and_left_comm, and_assoc] using hc.2
theorem zs_21_1 {a0 : zV} (hi : zi m pc np 21 k b) (hn : z_na k = 1) (ho : zob j b) (hc : (Nat.ble (z_cats st) 8 && ([a0] : List zV).all (fun v => z_cat v == 1)) = true) : z_step L m (pc, lv, a0 :: .inr (.inr j) :: st, S) = some (.inr (.inl (k, [.inr (.inr j), a0], (np, lv, st, S)))) := by
  obtain ⟨rfl, h1⟩ := zi_step hi
  obtain ⟨fk9, e1⟩ := zob_un ho
  rw [Bool.and_eq_true] at hc
  rw [h1]
  simp only [z_ex, z_call, hn, List.drop, e1, if_true]
  rw [if_pos]
  · rfl
  · refine ⟨Nat.le_of_ble_eq_true hc.1, by simp, ?_⟩
    simpa [z_cat, Bool.and_comm, Bool.and_assoc, Bool.and_left_comm, and_comm, and_left_comm, and_assoc] using hc.2
theorem zs_32_1 {a0 : zV} (hi : zi m pc np 32 k b) (hn : z_na k = 1) (ho : zob j b) (hc : (Nat.ble (z_cats st) 8 && ([a0] : List zV).all (fun v => z_cat v == 1)) = true) : z_step L m (pc, lv, a0 :: .inr (.inr j) :: st, S) = some (.inr (.inl (k, [.inr (.inr j), a0], (np, lv, st, S)))) := by
  obtain ⟨rfl, h1⟩ := zi_step hi
  obtain ⟨fk9, e1⟩ := zob_un ho
  rw [Bool.and_eq_true] at hc
  rw [h1]
  simp only [z_ex, z_call, hn, List.drop, e1, if_true]
  rw [if_pos]
  · rfl
  · refine ⟨Nat.le_of_ble_eq_true hc.1, by simp, ?_⟩
    simpa [z_cat, Bool.and_comm, Bool.and_assoc, Bool.and_left_comm, and_comm, and_left_comm, and_assoc] using hc.2
theorem zs_22_2 {a0 a1 : zV} (hi : zi m pc np 22 k b) (hn : z_na k = 2) (hc : (Nat.ble (z_cats st) 8 && ([a0, a1] : List zV).all (fun v => z_cat v == 1)) = true) : z_step L m (pc, lv, a1 :: a0 :: st, S) = some (.inr (.inl (k, [a0, a1], (np, lv, st, S)))) := by
  obtain ⟨rfl, h1⟩ := zi_step hi
  rw [Bool.and_eq_true] at hc
  rw [h1]
  simp only [z_ex, z_call, hn]
  rw [if_pos]
  · rfl
  · refine ⟨Nat.le_of_ble_eq_true hc.1, by simp, ?_⟩
    simpa [Bool.and_comm, Bool.and_assoc, Bool.and_left_comm, and_comm, and_left_comm, and_assoc] using hc.2
theorem zs_35_2 {a0 a1 : zV} (hi : zi m pc np 35 k b) (hn : z_na k = 2) (hc : (Nat.ble (z_cats st) 8 && ([a0, a1] : List zV).all (fun v => z_cat v == 1)) = true) : z_step L m (pc, lv, a1 :: a0 :: st, S) = some (.inr (.inl (k, [a0, a1], (np, lv, st, S)))) := by
  obtain ⟨rfl, h1⟩ := zi_step hi
  rw [Bool.and_eq_true] at hc
  rw [h1]
  simp only [z_ex, z_call, hn]
  rw [if_pos]
  · rfl
  · refine ⟨Nat.le_of_ble_eq_true hc.1, by simp, ?_⟩
    simpa [Bool.and_comm, Bool.and_assoc, Bool.and_left_comm, and_comm, and_left_comm, and_assoc] using hc.2
theorem zs_21_2 {a0 a1 : zV} (hi : zi m pc np 21 k b) (hn : z_na k = 2) (ho : zob j b) (hc : (Nat.ble (z_cats st) 8 && ([a0, a1] : List zV).all (fun v => z_cat v == 1)) = true) : z_step L m (pc, lv, a1 :: a0 :: .inr (.inr j) :: st, S) = some (.inr (.inl (k, [.inr (.inr j), a0, a1], (np, lv, st, S)))) := by
  obtain ⟨rfl, h1⟩ := zi_step hi
  obtain ⟨fk9, e1⟩ := zob_un ho
  rw [Bool.and_eq_true] at hc
  rw [h1]
  simp only [z_ex, z_call, hn, List.drop, e1, if_true]
  rw [if_pos]
  · rfl
  · refine ⟨Nat.le_of_ble_eq_true hc.1, by simp, ?_⟩
    simpa [z_cat, Bool.and_comm, Bool.and_assoc, Bool.and_left_comm, and_comm, and_left_comm, and_assoc] using hc.2
theorem zs_32_2 {a0 a1 : zV} (hi : zi m pc np 32 k b) (hn : z_na k = 2) (ho : zob j b) (hc : (Nat.ble (z_cats st) 8 && ([a0, a1] : List zV).all (fun v => z_cat v == 1)) = true) : z_step L m (pc, lv, a1 :: a0 :: .inr (.inr j) :: st, S) = some (.inr (.inl (k, [.inr (.inr j), a0, a1], (np, lv, st, S)))) := by
  obtain ⟨rfl, h1⟩ := zi_step hi
  obtain ⟨fk9, e1⟩ := zob_un ho
  rw [Bool.and_eq_true] at hc
  rw [h1]
  simp only [z_ex, z_call, hn, List.drop, e1, if_true]
  rw [if_pos]
  · rfl
  · refine ⟨Nat.le_of_ble_eq_true hc.1, by simp, ?_⟩
    simpa [z_cat, Bool.and_comm, Bool.and_assoc, Bool.and_left_comm, and_comm, and_left_comm, and_assoc] using hc.2
theorem zs_22_3 {a0 a1 a2 : zV} (hi : zi m pc np 22 k b) (hn : z_na k = 3) (hc : (Nat.ble (z_cats st) 8 && ([a0, a1, a2] : List zV).all (fun v => z_cat v == 1)) = true) : z_step L m (pc, lv, a2 :: a1 :: a0 :: st, S) = some (.inr (.inl (k, [a0, a1, a2], (np, lv, st, S)))) := by
  obtain ⟨rfl, h1⟩ := zi_step hi
  rw [Bool.and_eq_true] at hc
  rw [h1]
  simp only [z_ex, z_call, hn]
  rw [if_pos]
  · rfl
  · refine ⟨Nat.le_of_ble_eq_true hc.1, by simp, ?_⟩
    simpa [Bool.and_comm, Bool.and_assoc, Bool.and_left_comm, and_comm, and_left_comm, and_assoc] using hc.2
theorem zs_35_3 {a0 a1 a2 : zV} (hi : zi m pc np 35 k b) (hn : z_na k = 3) (hc : (Nat.ble (z_cats st) 8 && ([a0, a1, a2] : List zV).all (fun v => z_cat v == 1)) = true) : z_step L m (pc, lv, a2 :: a1 :: a0 :: st, S) = some (.inr (.inl (k, [a0, a1, a2], (np, lv, st, S)))) := by
  obtain ⟨rfl, h1⟩ := zi_step hi
  rw [Bool.and_eq_true] at hc
  rw [h1]
  simp only [z_ex, z_call, hn]
  rw [if_pos]
  · rfl
  · refine ⟨Nat.le_of_ble_eq_true hc.1, by simp, ?_⟩
    simpa [Bool.and_comm, Bool.and_assoc, Bool.and_left_comm, and_comm, and_left_comm, and_assoc] using hc.2
theorem zs_21_3 {a0 a1 a2 : zV} (hi : zi m pc np 21 k b) (hn : z_na k = 3) (ho : zob j b) (hc : (Nat.ble (z_cats st) 8 && ([a0, a1, a2] : List zV).all (fun v => z_cat v == 1)) = true) : z_step L m (pc, lv, a2 :: a1 :: a0 :: .inr (.inr j) :: st, S) = some (.inr (.inl (k, [.inr (.inr j), a0, a1, a2], (np, lv, st, S)))) := by
  obtain ⟨rfl, h1⟩ := zi_step hi
  obtain ⟨fk9, e1⟩ := zob_un ho
  rw [Bool.and_eq_true] at hc
  rw [h1]
  simp only [z_ex, z_call, hn, List.drop, e1, if_true]
  rw [if_pos]
  · rfl
  · refine ⟨Nat.le_of_ble_eq_true hc.1, by simp, ?_⟩
    simpa [z_cat, Bool.and_comm, Bool.and_assoc, Bool.and_left_comm, and_comm, and_left_comm, and_assoc] using hc.2
theorem zs_32_3 {a0 a1 a2 : zV} (hi : zi m pc np 32 k b) (hn : z_na k = 3) (ho : zob j b) (hc : (Nat.ble (z_cats st) 8 && ([a0, a1, a2] : List zV).all (fun v => z_cat v == 1)) = true) : z_step L m (pc, lv, a2 :: a1 :: a0 :: .inr (.inr j) :: st, S) = some (.inr (.inl (k, [.inr (.inr j), a0, a1, a2], (np, lv, st, S)))) := by
  obtain ⟨rfl, h1⟩ := zi_step hi
  obtain ⟨fk9, e1⟩ := zob_un ho
  rw [Bool.and_eq_true] at hc
  rw [h1]
  simp only [z_ex, z_call, hn, List.drop, e1, if_true]
  rw [if_pos]
  · rfl
  · refine ⟨Nat.le_of_ble_eq_true hc.1, by simp, ?_⟩
    simpa [z_cat, Bool.and_comm, Bool.and_assoc, Bool.and_left_comm, and_comm, and_left_comm, and_assoc] using hc.2
theorem zs_22_4 {a0 a1 a2 a3 : zV} (hi : zi m pc np 22 k b) (hn : z_na k = 4) (hc : (Nat.ble (z_cats st) 8 && ([a0, a1, a2, a3] : List zV).all (fun v => z_cat v == 1)) = true) : z_step L m (pc, lv, a3 :: a2 :: a1 :: a0 :: st, S) = some (.inr (.inl (k, [a0, a1, a2, a3], (np, lv, st, S)))) := by
  obtain ⟨rfl, h1⟩ := zi_step hi
  rw [Bool.and_eq_true] at hc
  rw [h1]
  simp only [z_ex, z_call, hn]
  rw [if_pos]
  · rfl
  · refine ⟨Nat.le_of_ble_eq_true hc.1, by simp, ?_⟩
    simpa [Bool.and_comm, Bool.and_assoc, Bool.and_left_comm, and_comm, and_left_comm, and_assoc] using hc.2
theorem zs_35_4 {a0 a1 a2 a3 : zV} (hi : zi m pc np 35 k b) (hn : z_na k = 4) (hc : (Nat.ble (z_cats st) 8 && ([a0, a1, a2, a3] : List zV).all (fun v => z_cat v == 1)) = true) : z_step L m (pc, lv, a3 :: a2 :: a1 :: a0 :: st, S) = some (.inr (.inl (k, [a0, a1, a2, a3], (np, lv, st, S)))) := by
  obtain ⟨rfl, h1⟩ := zi_step hi
  rw [Bool.and_eq_true] at hc
  rw [h1]
  simp only [z_ex, z_call, hn]
  rw [if_pos]
  · rfl
  · refine ⟨Nat.le_of_ble_eq_true hc.1, by simp, ?_⟩
    simpa [Bool.and_comm, Bool.and_assoc, Bool.and_left_comm, and_comm, and_left_comm, and_assoc] using hc.2
theorem zs_21_4 {a0 a1 a2 a3 : zV} (hi : zi m pc np 21 k b) (hn : z_na k = 4) (ho : zob j b) (hc : (Nat.ble (z_cats st) 8 && ([a0, a1, a2, a3] : List zV).all (fun v => z_cat v == 1)) = true) : z_step L m (pc, lv, a3 :: a2 :: a1 :: a0 :: .inr (.inr j) :: st, S) = some (.inr (.inl (k, [.inr (.inr j), a0, a1, a2, a3], (np, lv, st, S)))) := by
  obtain ⟨rfl, h1⟩ := zi_step hi
  obtain ⟨fk9, e1⟩ := zob_un ho
  rw [Bool.and_eq_true] at hc
  rw [h1]
  simp only [z_ex, z_call, hn, List.drop, e1, if_true]
  rw [if_pos]
  · rfl
  · refine ⟨Nat.le_of_ble_eq_true hc.1, by simp, ?_⟩
    simpa [z_cat, Bool.and_comm, Bool.and_assoc, Bool.and_left_comm, and_comm, and_left_comm, and_assoc] using hc.2
theorem zs_32_4 {a0 a1 a2 a3 : zV} (hi : zi m pc np 32 k b) (hn : z_na k = 4) (ho : zob j b) (hc : (Nat.ble (z_cats st) 8 && ([a0, a1, a2, a3] : List zV).all (fun v => z_cat v == 1)) = true) : z_step L m (pc, lv, a3 :: a2 :: a1 :: a0 :: .inr (.inr j) :: st, S) = some (.inr (.inl (k, [.inr (.inr j), a0, a1, a2, a3], (np, lv, st, S)))) := by
  obtain ⟨rfl, h1⟩ := zi_step hi
  obtain ⟨fk9, e1⟩ := zob_un ho
  rw [Bool.and_eq_true] at hc
  rw [h1]
  simp only [z_ex, z_call, hn, List.drop, e1, if_true]
  rw [if_pos]
  · rfl
  · refine ⟨Nat.le_of_ble_eq_true hc.1, by simp, ?_⟩
    simpa [z_cat, Bool.and_comm, Bool.and_assoc, Bool.and_left_comm, and_comm, and_left_comm, and_assoc] using hc.2
theorem zs_22_5 {a0 a1 a2 a3 a4 : zV} (hi : zi m pc np 22 k b) (hn : z_na k = 5) (hc : (Nat.ble (z_cats st) 8 && ([a0, a1, a2, a3, a4] : List zV).all (fun v => z_cat v == 1)) = true) : z_step L m (pc, lv, a4 :: a3 :: a2 :: a1 :: a0 :: st, S) = some (.inr (.inl (k, [a0, a1, a2, a3, a4], (np, lv, st, S)))) := by
  obtain ⟨rfl, h1⟩ := zi_step hi
  rw [Bool.and_eq_true] at hc
  rw [h1]
  simp only [z_ex, z_call, hn]
  rw [if_pos]
  · rfl
  · refine ⟨Nat.le_of_ble_eq_true hc.1, by simp, ?_⟩
    simpa [Bool.and_comm, Bool.and_assoc, Bool.and_left_comm, and_comm, and_left_comm, and_assoc] using hc.2
theorem zs_35_5 {a0 a1 a2 a3 a4 : zV} (hi : zi m pc np 35 k b) (hn : z_na k = 5) (hc : (Nat.ble (z_cats st) 8 && ([a0, a1, a2, a3, a4] : List zV).all (fun v => z_cat v == 1)) = true) : z_step L m (pc, lv, a4 :: a3 :: a2 :: a1 :: a0 :: st, S) = some (.inr (.inl (k, [a0, a1, a2, a3, a4], (np, lv, st, S)))) := by
  obtain ⟨rfl, h1⟩ := zi_step hi
  rw [Bool.and_eq_true] at hc
  rw [h1]
  simp only [z_ex, z_call, hn]
  rw [if_pos]
  · rfl
  · refine ⟨Nat.le_of_ble_eq_true hc.1, by simp, ?_⟩
    simpa [Bool.and_comm, Bool.and_assoc, Bool.and_left_comm, and_comm, and_left_comm, and_assoc] using hc.2
theorem zs_21_5 {a0 a1 a2 a3 a4 : zV} (hi : zi m pc np 21 k b) (hn : z_na k = 5) (ho : zob j b) (hc : (Nat.ble (z_cats st) 8 && ([a0, a1, a2, a3, a4] : List zV).all (fun v => z_cat v == 1)) = true) : z_step L m (pc, lv, a4 :: a3 :: a2 :: a1 :: a0 :: .inr (.inr j) :: st, S) = some (.inr (.inl (k, [.inr (.inr j), a0, a1, a2, a3, a4], (np, lv, st, S)))) := by
  obtain ⟨rfl, h1⟩ := zi_step hi
  obtain ⟨fk9, e1⟩ := zob_un ho
  rw [Bool.and_eq_true] at hc
  rw [h1]
  simp only [z_ex, z_call, hn, List.drop, e1, if_true]
  rw [if_pos]
  · rfl
  · refine ⟨Nat.le_of_ble_eq_true hc.1, by simp, ?_⟩
    simpa [z_cat, Bool.and_comm, Bool.and_assoc, Bool.and_left_comm, and_comm, and_left_comm, and_assoc] using hc.2
theorem zs_32_5 {a0 a1 a2 a3 a4 : zV} (hi : zi m pc np 32 k b) (hn : z_na k = 5) (ho : zob j b) (hc : (Nat.ble (z_cats st) 8 && ([a0, a1, a2, a3, a4] : List zV).all (fun v => z_cat v == 1)) = true) : z_step L m (pc, lv, a4 :: a3 :: a2 :: a1 :: a0 :: .inr (.inr j) :: st, S) = some (.inr (.inl (k, [.inr (.inr j), a0, a1, a2, a3, a4], (np, lv, st, S)))) := by
  obtain ⟨rfl, h1⟩ := zi_step hi
  obtain ⟨fk9, e1⟩ := zob_un ho
  rw [Bool.and_eq_true] at hc
  rw [h1]
  simp only [z_ex, z_call, hn, List.drop, e1, if_true]
  rw [if_pos]
  · rfl
  · refine ⟨Nat.le_of_ble_eq_true hc.1, by simp, ?_⟩
    simpa [z_cat, Bool.and_comm, Bool.and_assoc, Bool.and_left_comm, and_comm, and_left_comm, and_assoc] using hc.2
theorem zs_22_6 {a0 a1 a2 a3 a4 a5 : zV} (hi : zi m pc np 22 k b) (hn : z_na k = 6) (hc : (Nat.ble (z_cats st) 8 && ([a0, a1, a2, a3, a4, a5] : List zV).all (fun v => z_cat v == 1)) = true) : z_step L m (pc, lv, a5 :: a4 :: a3 :: a2 :: a1 :: a0 :: st, S) = some (.inr (.inl (k, [a0, a1, a2, a3, a4, a5], (np, lv, st, S)))) := by
  obtain ⟨rfl, h1⟩ := zi_step hi
  rw [Bool.and_eq_true] at hc
  rw [h1]
  simp only [z_ex, z_call, hn]
  rw [if_pos]
  · rfl
  · refine ⟨Nat.le_of_ble_eq_true hc.1, by simp, ?_⟩
    simpa [Bool.and_comm, Bool.and_assoc, Bool.and_left_comm, and_comm, and_left_comm, and_assoc] using hc.2
theorem zs_35_6 {a0 a1 a2 a3 a4 a5 : zV} (hi : zi m pc np 35 k b) (hn : z_na k = 6) (hc : (Nat.ble (z_cats st) 8 && ([a0, a1, a2, a3, a4, a5] : List zV).all (fun v => z_cat v == 1)) = true) : z_step L m (pc, lv, a5 :: a4 :: a3 :: a2 :: a1 :: a0 :: st, S) = some (.inr (.inl (k, [a0, a1, a2, a3, a4, a5], (np, lv, st, S)))) := by
  obtain ⟨rfl, h1⟩ := zi_step hi
  rw [Bool.and_eq_true] at hc
  rw [h1]
  simp only [z_ex, z_call, hn]
  rw [if_pos]
  · rfl
  · refine ⟨Nat.le_of_ble_eq_true hc.1, by simp, ?_⟩
    simpa [Bool.and_comm, Bool.and_assoc, Bool.and_left_comm, and_comm, and_left_comm, and_assoc] using hc.2
theorem zs_21_6 {a0 a1 a2 a3 a4 a5 : zV} (hi : zi m pc np 21 k b) (hn : z_na k = 6) (ho : zob j b) (hc : (Nat.ble (z_cats st) 8 && ([a0, a1, a2, a3, a4, a5] : List zV).all (fun v => z_cat v == 1)) = true) : z_step L m (pc, lv, a5 :: a4 :: a3 :: a2 :: a1 :: a0 :: .inr (.inr j) :: st, S) = some (.inr (.inl (k, [.inr (.inr j), a0, a1, a2, a3, a4, a5], (np, lv, st, S)))) := by
  obtain ⟨rfl, h1⟩ := zi_step hi
  obtain ⟨fk9, e1⟩ := zob_un ho
  rw [Bool.and_eq_true] at hc
  rw [h1]
  simp only [z_ex, z_call, hn, List.drop, e1, if_true]
  rw [if_pos]
  · rfl
  · refine ⟨Nat.le_of_ble_eq_true hc.1, by simp, ?_⟩
    simpa [z_cat, Bool.and_comm, Bool.and_assoc, Bool.and_left_comm, and_comm, and_left_comm, and_assoc] using hc.2
theorem zs_32_6 {a0 a1 a2 a3 a4 a5 : zV} (hi : zi m pc np 32 k b) (hn : z_na k = 6) (ho : zob j b) (hc : (Nat.ble (z_cats st) 8 && ([a0, a1, a2, a3, a4, a5] : List zV).all (fun v => z_cat v == 1)) = true) : z_step L m (pc, lv, a5 :: a4 :: a3 :: a2 :: a1 :: a0 :: .inr (.inr j) :: st, S) = some (.inr (.inl (k, [.inr (.inr j), a0, a1, a2, a3, a4, a5], (np, lv, st, S)))) := by
  obtain ⟨rfl, h1⟩ := zi_step hi
  obtain ⟨fk9, e1⟩ := zob_un ho
  rw [Bool.and_eq_true] at hc
  rw [h1]
  simp only [z_ex, z_call, hn, List.drop, e1, if_true]
  rw [if_pos]
  · rfl
  · refine ⟨Nat.le_of_ble_eq_true hc.1, by simp, ?_⟩
    simpa [z_cat, Bool.and_comm, Bool.and_assoc, Bool.and_left_comm, and_comm, and_left_comm, and_assoc] using hc.2
theorem zs_22_7 {a0 a1 a2 a3 a4 a5 a6 : zV} (hi : zi m pc np 22 k b) (hn : z_na k = 7) (hc : (Nat.ble (z_cats st) 8 && ([a0, a1, a2, a3, a4, a5, a6] : List zV).all (fun v => z_cat v == 1)) = true) : z_step L m (pc, lv, a6 :: a5 :: a4 :: a3 :: a2 :: a1 :: a0 :: st, S) = some (.inr (.inl (k, [a0, a1, a2, a3, a4, a5, a6], (np, lv, st, S)))) := by
  obtain ⟨rfl, h1⟩ := zi_step hi
  rw [Bool.and_eq_true] at hc
  rw [h1]
  simp only [z_ex, z_call, hn]
  rw [if_pos]
  · rfl
  · refine ⟨Nat.le_of_ble_eq_true hc.1, by simp, ?_⟩
    simpa [Bool.and_comm, Bool.and_assoc, Bool.and_left_comm, and_comm, and_left_comm, and_assoc] using hc.2
theorem zs_35_7 {a0 a1 a2 a3 a4 a5 a6 : zV} (hi : zi m pc np 35 k b) (hn : z_na k = 7) (hc : (Nat.ble (z_cats st) 8 && ([a0, a1, a2, a3, a4, a5, a6] : List zV).all (fun v => z_cat v == 1)) = true) : z_step L m (pc, lv, a6 :: a5 :: a4 :: a3 :: a2 :: a1 :: a0 :: st, S) = some (.inr (.inl (k, [a0, a1, a2, a3, a4, a5, a6], (np, lv, st, S)))) := by
  obtain ⟨rfl, h1⟩ := zi_step hi
  rw [Bool.and_eq_true] at hc
  rw [h1]
  simp only [z_ex, z_call, hn]
  rw [if_pos]
  · rfl
  · refine ⟨Nat.le_of_ble_eq_true hc.1, by simp, ?_⟩
    simpa [Bool.and_comm, Bool.and_assoc, Bool.and_left_comm, and_comm, and_left_comm, and_assoc] using hc.2
theorem zs_21_7 {a0 a1 a2 a3 a4 a5 a6 : zV} (hi : zi m pc np 21 k b) (hn : z_na k = 7) (ho : zob j b) (hc : (Nat.ble (z_cats st) 8 && ([a0, a1, a2, a3, a4, a5, a6] : List zV).all (fun v => z_cat v == 1)) = true) : z_step L m (pc, lv, a6 :: a5 :: a4 :: a3 :: a2 :: a1 :: a0 :: .inr (.inr j) :: st, S) = some (.inr (.inl (k, [.inr (.inr j), a0, a1, a2, a3, a4, a5, a6], (np, lv, st, S)))) := by
  obtain ⟨rfl, h1⟩ := zi_step hi
  obtain ⟨fk9, e1⟩ := zob_un ho
  rw [Bool.and_eq_true] at hc
  rw [h1]
  simp only [z_ex, z_call, hn, List.drop, e1, if_true]
  rw [if_pos]
  · rfl
  · refine ⟨Nat.le_of_ble_eq_true hc.1, by simp, ?_⟩
    simpa [z_cat, Bool.and_comm, Bool.and_assoc, Bool.and_left_comm, and_comm, and_left_comm, and_assoc] using hc.2
theorem zs_32_7 {a0 a1 a2 a3 a4 a5 a6 : zV} (hi : zi m pc np 32 k b) (hn : z_na k = 7) (ho : zob j b) (hc : (Nat.ble (z_cats st) 8 && ([a0, a1, a2, a3, a4, a5, a6] : List zV).all (fun v => z_cat v == 1)) = true) : z_step L m (pc, lv, a6 :: a5 :: a4 :: a3 :: a2 :: a1 :: a0 :: .inr (.inr j) :: st, S) = some (.inr (.inl (k, [.inr (.inr j), a0, a1, a2, a3, a4, a5, a6], (np, lv, st, S)))) := by
  obtain ⟨rfl, h1⟩ := zi_step hi
  obtain ⟨fk9, e1⟩ := zob_un ho
  rw [Bool.and_eq_true] at hc
  rw [h1]
  simp only [z_ex, z_call, hn, List.drop, e1, if_true]
  rw [if_pos]
  · rfl
  · refine ⟨Nat.le_of_ble_eq_true hc.1, by simp, ?_⟩
    simpa [z_cat, Bool.and_comm, Bool.and_assoc, Bool.and_left_comm, and_comm, and_left_comm, and_assoc] using hc.2
theorem zs_22_8 {a0 a1 a2 a3 a4 a5 a6 a7 : zV} (hi : zi m pc np 22 k b) (hn : z_na k = 8) (hc : (Nat.ble (z_cats st) 8 && ([a0, a1, a2, a3, a4, a5, a6, a7] : List zV).all (fun v => z_cat v == 1)) = true) : z_step L m (pc, lv, a7 :: a6 :: a5 :: a4 :: a3 :: a2 :: a1 :: a0 :: st, S) = some (.inr (.inl (k, [a0, a1, a2, a3, a4, a5, a6, a7], (np, lv, st, S)))) := by
  obtain ⟨rfl, h1⟩ := zi_step hi
  rw [Bool.and_eq_true] at hc
  rw [h1]
  simp only [z_ex, z_call, hn]
  rw [if_pos]
  · rfl
  · refine ⟨Nat.le_of_ble_eq_true hc.1, by simp, ?_⟩
    simpa [Bool.and_comm, Bool.and_assoc, Bool.and_left_comm, and_comm, and_left_comm, and_assoc] using hc.2
theorem zs_35_8 {a0 a1 a2 a3 a4 a5 a6 a7 : zV} (hi : zi m pc np 35 k b) (hn : z_na k = 8) (hc : (Nat.ble (z_cats st) 8 && ([a0, a1, a2, a3, a4, a5, a6, a7] : List zV).all (fun v => z_cat v == 1)) = true) : z_step L m (pc, lv, a7 :: a6 :: a5 :: a4 :: a3 :: a2 :: a1 :: a0 :: st, S) = some (.inr (.inl (k, [a0, a1, a2, a3, a4, a5, a6, a7], (np, lv, st, S)))) := by
  obtain ⟨rfl, h1⟩ := zi_step hi
  rw [Bool.and_eq_true] at hc
  rw [h1]
  simp only [z_ex, z_call, hn]
  rw [if_pos]
  · rfl
  · refine ⟨Nat.le_of_ble_eq_true hc.1, by simp, ?_⟩
    simpa [Bool.and_comm, Bool.and_assoc, Bool.and_left_comm, and_comm, and_left_comm, and_assoc] using hc.2
theorem zs_21_8 {a0 a1 a2 a3 a4 a5 a6 a7 : zV} (hi : zi m pc np 21 k b) (hn : z_na k = 8) (ho : zob j b) (hc : (Nat.ble (z_cats st) 8 && ([a0, a1, a2, a3, a4, a5, a6, a7] : List zV).all (fun v => z_cat v == 1)) = true) : z_step L m (pc, lv, a7 :: a6 :: a5 :: a4 :: a3 :: a2 :: a1 :: a0 :: .inr (.inr j) :: st, S) = some (.inr (.inl (k, [.inr (.inr j), a0, a1, a2, a3, a4, a5, a6, a7], (np, lv, st, S)))) := by
  obtain ⟨rfl, h1⟩ := zi_step hi
  obtain ⟨fk9, e1⟩ := zob_un ho
  rw [Bool.and_eq_true] at hc
  rw [h1]
  simp only [z_ex, z_call, hn, List.drop, e1, if_true]
  rw [if_pos]
  · rfl
  · refine ⟨Nat.le_of_ble_eq_true hc.1, by simp, ?_⟩
    simpa [z_cat, Bool.and_comm, Bool.and_assoc, Bool.and_left_comm, and_comm, and_left_comm, and_assoc] using hc.2
theorem zs_32_8 {a0 a1 a2 a3 a4 a5 a6 a7 : zV} (hi : zi m pc np 32 k b) (hn : z_na k = 8) (ho : zob j b) (hc : (Nat.ble (z_cats st) 8 && ([a0, a1, a2, a3, a4, a5, a6, a7] : List zV).all (fun v => z_cat v == 1)) = true) : z_step L m (pc, lv, a7 :: a6 :: a5 :: a4 :: a3 :: a2 :: a1 :: a0 :: .inr (.inr j) :: st, S) = some (.inr (.inl (k, [.inr (.inr j), a0, a1, a2, a3, a4, a5, a6, a7], (np, lv, st, S)))) := by
  obtain ⟨rfl, h1⟩ := zi_step hi
  obtain ⟨fk9, e1⟩ := zob_un ho
  rw [Bool.and_eq_true] at hc
  rw [h1]
  simp only [z_ex, z_call, hn, List.drop, e1, if_true]
  rw [if_pos]
  · rfl
  · refine ⟨Nat.le_of_ble_eq_true hc.1, by simp, ?_⟩
    simpa [z_cat, Bool.and_comm, Bool.and_assoc, Bool.and_left_comm, and_comm, and_left_comm, and_assoc] using hc.2
/-- the calls that throw, when what is demanded isn't so -/
theorem zr_dem {P : Prop} [Decidable P] {E : Nat} (hs : z_step L m (pc, lv, st, S) = some (.inr (.inl (185 + E, [.inl (zb P)], (np, lv, rest, S))))) (hd : ∀ x S, zf L (185 + E) [.inl x] S (if x = 0 then (.inr E, S, 1) else (.inl none, S, 0))) (ht : (z_th m).isEmpty = true) (h : P → zt L m np lv rest S T) : zt L m pc lv st S (if P then T else .inr (.inr E, S, 1)) := by
  by_cases hP : P
  · rw [if_pos hP]
    have h9 := hd (zb P) S
    rw [if_neg (by rw [zb_0]; exact fun hn => hn hP)] at h9
    exact zt_call hs h9 (h hP)
  · rw [if_neg hP]
    have h9 := hd (zb P) S
    rw [if_pos (by rw [zb_0]; exact hP)] at h9
    exact zt_callX hs h9 ht
theorem zr_demx {E : Nat} (hs : z_step L m (pc, lv, st, S) = some (.inr (.inl (185 + E, [.inl x], (np, lv, rest, S))))) (hd : ∀ x S, zf L (185 + E) [.inl x] S (if x = 0 then (.inr E, S, 1) else (.inl none, S, 0))) (ht : (z_th m).isEmpty = true) (h : ¬ x = 0 → zt L m np lv rest S T) : zt L m pc lv st S (if ¬ x = 0 then T else .inr (.inr E, S, 1)) := by
  by_cases hP : x = 0
  · rw [if_neg (fun h => h hP)]
    have h9 := hd x S
    rw [if_pos hP] at h9
    exact zt_callX hs h9 ht
  · rw [if_pos hP]
    have h9 := hd x S
    rw [if_neg hP] at h9
    exact zt_call hs h9 (h hP)
theorem zr_cv {r : zV} {as : List zV} (hs : z_step L m (pc, lv, st, S) = some (.inr (.inl (k, as, (np, lv, rest, S))))) (hf : zf L k as S (.inl (some r), S', 0)) (h : zt L m np lv (r :: rest) S' T) : zt L m pc lv st S T := zt_call hs hf h
theorem zr_cn {as : List zV} (hs : z_step L m (pc, lv, st, S) = some (.inr (.inl (k, as, (np, lv, rest, S))))) (hf : zf L k as S (.inl none, S', 0)) (h : zt L m np lv rest S' T) : zt L m pc lv st S T := zt_call hs hf h
theorem zr_callO {P : Prop} [Decidable P] {as : List zV} {o1 o2 : zRes} (hf : zf L k as S (if P then o1 else o2)) (h1 : P → zf L k as S o1 → zt L m pc lv st S' T1) (h2 : ¬ P → zf L k as S o2 → zt L m pc lv st S' T2) : zt L m pc lv st S' (if P then T1 else T2) := by
  by_cases h : P
  · rw [if_pos h] at hf ⊢; exact h1 h hf
  · rw [if_neg h] at hf ⊢; exact h2 h hf
end ZRL
