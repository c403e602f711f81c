/-! calls of the small machine: contracts, and what is behind a call -/
theorem z_goodIn {ws : List Cond} (h : ∀ w ∈ ws, w ∈ z_T) : GoodIn z_T ws := fun w hw => ⟨h w hw, good_of_word (List.mem_filter.mp (h w hw)).2⟩
def z_cw (k : Nat) : Cond := if (z_tb k).isEmpty then .code (z_y k) (z_b k) (z_ml k) (z_rt k) else .codeWith (z_y k) (z_b k) (z_ml k) (z_rt k) (z_tb k)
def z_ws (k : Nat) : List Cond := z_cw k :: z_T
def z_rm (k e : Nat) : Room := { frames := z_fr k, cells := e, slots := 6 * e, locals := z_lo k }
section ZCL
variable {l : Launch} {dC : Nat → ClassId} {dI : Nat → Nat → Nat} {cI cZ cJ : ClassId} {q : Nat → Nat} {A : Nat → Prop} {L : Nat} {X : Nat → Int32}
def z_Pc (dC : Nat → ClassId) (dI : Nat → Nat → Nat) (cI cZ cJ : ClassId) (q : Nat → Nat) (A : Nat → Prop) (L : Nat) (X : Nat → Int32) (as : List zV) (S : zS) : Array Value → State → Prop := va_Pc (as.map (z_cv q)) (fun U => z_Fx dC dI cI cZ cJ q A L X U U.heap ∧ va_P (dC, dI) vwCl (z_W cI cZ cJ q S) U.heap ∧ S 1000 = X)
def z_Qc (dC : Nat → ClassId) (dI : Nat → Nat → Nat) (cI cZ cJ : ClassId) (q : Nat → Nat) (A : Nat → Prop) (X : Nat → Int32) (r : Option zV) (S : zS) : Array Value → State → Outcome → State → Prop := fun _ st o t => (o = .returned (r.map (z_cv q)) ∧ va_P (dC, dI) vwCl (z_W cI cZ cJ q S) t.heap ∧ S 1000 = X) ∧ va_F A st t
def z_Xc (dC : Nat → ClassId) (dI : Nat → Nat → Nat) (cI cZ cJ : ClassId) (q : Nat → Nat) (A : Nat → Prop) (X : Nat → Int32) (E : Nat) (S : zS) : String → State → State → Prop := fun E9 st t => (E9 = z_exn E ∧ va_P (dC, dI) vwCl (z_W cI cZ cJ q S) t.heap ∧ S 1000 = X) ∧ va_F A st t
theorem z_blind (as : List zV) (S : zS) : FrameBlind (z_Pc dC dI cI cZ cJ q A L X as S) := by
  intro a U g mk h
  obtain ⟨h1, ⟨f1, f2, f3, f4, f5, f6, f7, f8, f9⟩, h3, h4⟩ := h
  have hv : U.vm.Alike (U.calling g mk a).vm := Vm.Alike.refl U.vm
  exact ⟨h1, ⟨va_K.moved hv f1, va_Nw.same rfl (rfl : U.vm = (U.calling g mk a).vm) f2, f3.moved hv, f4.moved hv, f5.moved hv, f6, fun E E' x y z => (f7 E E' x y z).moved hv, fun y hy => va_Nw.same rfl (rfl : U.vm = (U.calling g mk a).vm) (f8 y hy), fun E hE => va_Nw.same rfl (rfl : U.vm = (U.calling g mk a).vm) (f9 E hE)⟩, h3, h4⟩
variable {p : Program} {e : Env} {R : Room} {s : State} {m : MethodId} {args : Array Value} {below : List Frame} {meth : Method} {c : Code} {Q : State → Prop} {mi : Nat} {cells slots : Nat} {H : Heap} {locs : List Loc}
variable {pc : Nat} {ls : Array Slot} {st0 rest : List Value}
/-- behind a call that returned -/
theorem z_back {mc ms : Nat} {r : Option zV} {S : zS} {a : Array Value} (hr : va_Run p l e R s m args below meth c H locs cells slots mc ms (F0 m pc ls st0) rest (z_Qc dC dI cI cZ cJ q A X r S a) A) (hS : va_S A s.heap H locs)
    (kk : ∀ (H1 : Heap) (locs1 : List Loc), va_P (dC, dI) vwCl (z_W cI cZ cJ q S) H1 → S 1000 = X → va_S A s.heap H1 locs1 → W p l e R s m args below meth c H1 locs1 (cells + mc) (slots + ms) Q (F0 m (pc + 3) ls ((r.map (z_cv q)).toList ++ rest))) : W p l e R s m args below meth c H locs cells slots Q (F0 m pc ls st0) := by
  intro T hT X9
  obtain ⟨v, st₀, t, T', L9, h0, X', hL, e1, e2, ⟨⟨hv, hp, hb⟩, hz, hk⟩, st⟩ := hr T hT X9
  cases hv
  rw [h0] at hz hk
  obtain ⟨t2, a1, b1⟩ := kk T'.heap (locs ++ L9) (by rw [e1]; exact hp) hb
    ⟨Nat.le_trans hS.1 (by rw [e1]; exact hz), fun q h1 h2 => by rw [e1, hk q (Nat.lt_of_lt_of_le h1 hS.1) h2]; exact hS.2.1 q h1 h2, fun q hq => by
      rcases List.mem_append.mp hq with h | h
      · exact hS.2.2 q h
      · exact hL q h⟩ T' rfl X'
  exact ⟨t2, st t2 a1, b1⟩
/-- behind a call that threw -/
theorem z_backX {mc ms E : Nat} {S : zS} {a : Array Value} (hr : vx_Run p l e R s m args below meth c H locs cells slots mc ms (F0 m pc ls st0) rest ((fun _ _ _ _ => False : Array Value → State → Outcome → State → Prop) a) (z_Xc dC dI cI cZ cJ q A X E S) A) (hS : va_S A s.heap H locs)
    (kk : ∀ (H1 : Heap) (locs1 : List Loc) (q9 : Addr) (ce : Cell), va_P (dC, dI) vwCl (z_W cI cZ cJ q S) H1 → S 1000 = X → va_S A s.heap H1 locs1 → H1[q9]? = some ce → ce.vm = .none → s.vm.findClass (z_exn E) = some ce.cls → vx_W p l e R s m args below meth c H1 locs1 (cells + mc) (slots + ms) Q (F0 m pc ls rest) q9) : W p l e R s m args below meth c H locs cells slots Q (F0 m pc ls st0) := by
  intro T hT X9
  rcases hr T hT X9 with ⟨v, st₀, t, T', L9, h0, X', hL, e1, e2, hf, st⟩ | ⟨q9, st₀, t, T', L9, E9, ce, h0, X', hL, e1, e2, ⟨⟨rfl, hp, hb⟩, hF⟩, hce, hcv, hcl, st⟩
  · exact hf.elim
  · obtain ⟨k1, k2, k3⟩ := vx_keep h0 e1 hS (fun _ _ h => h) (fun _ h => h) hL hF
    obtain ⟨t2, a1, b1⟩ := kk T'.heap (locs ++ L9) q9 ce (by rw [e1]; exact hp) hb k3 (by rw [e1]; exact hce) hcv hcl T' rfl X'
    exact ⟨t2, st.trans a1, b1⟩
theorem z_sl {vs : List zV} (h : vs.all (fun v => z_cat v == 1) = true) : (lg_sl (vs.map (z_cv q))).length = vs.length := by
  induction vs with
  | nil => rfl
  | cons v vs ih =>
    simp only [List.all_cons, Bool.and_eq_true, beq_iff_eq] at h
    have h1 : ¬ (z_cv q v).category = 2 := by rw [z_cv_cat, h.1]; decide
    have := ih h.2
    simp only [lg_sl, List.map_cons, List.flatMap_cons, if_neg h1, List.length_append, List.length_cons, List.length_nil] at this ⊢
    omega
theorem z_args {vs : List zV} (h : vs.all (fun v => z_cat v == 1) = true) : ∀ (n i : Nat) (v : zV), vs[i]? = some v → (n + i, z_cv q v) ∈ lv_args n (vs.map (z_cv q)) := by
  induction vs with
  | nil => intro n i v hv; simp at hv
  | cons u vs ih =>
    simp only [List.all_cons, Bool.and_eq_true, beq_iff_eq] at h
    have h1 : ¬ (z_cv q u).category = 2 := by rw [z_cv_cat, h.1]; decide
    intro n i v hv
    rw [List.map_cons, lv_args, if_neg h1]
    cases i with
    | zero => cases hv; exact List.mem_cons_self
    | succ i =>
      refine List.mem_cons_of_mem _ ?_
      have := ih h.2 (n + 1) i v hv
      rwa [Nat.add_assoc, Nat.add_comm 1 i] at this
theorem z_entry {vs : List zV} (h : vs.all (fun v => z_cat v == 1) = true) {k : Nat} (hn : vs.length ≤ z_ml k) : lv_has ((lg_sl (vs.map (z_cv q)) ++ List.replicate (z_ml k - (lg_sl (vs.map (z_cv q))).length) Slot.unset).toArray) (z_ml k) (z_al q (z_ent k vs)) := by
  have h0 := lv_entry (vs.map (z_cv q)) (n := z_ml k) (by rw [z_sl h]; exact hn)
  refine ⟨h0.1, h0.2.1, fun x hx => h0.2.2 x ?_⟩
  obtain ⟨v, h1, h2, h3⟩ := z_al_of hx
  unfold z_ent at h1
  by_cases hl : x.1 < (vs.map some).length
  · rw [List.getElem?_append_left hl, List.getElem?_map] at h1
    rcases hv : vs[x.1]? with _ | u
    · rw [hv] at h1; cases h1
    · rw [hv] at h1
      cases h1
      have := z_args (q := q) h 0 x.1 v hv
      rw [Nat.zero_add, ← h3] at this
      exact this
  · rw [List.getElem?_append_right (by omega), List.getElem?_replicate] at h1
    split at h1 <;> cases h1
theorem z_ent_len {vs : List zV} {k : Nat} (hn : vs.length ≤ z_ml k) : (z_ent k vs).length = z_ml k := by simp [z_ent]; omega
end ZCL
