/-! the world of the tables: what the cells hold, by a function of cell and place -/
def z_cv (q : Nat → Nat) (v : zV) : Value := match v with
  | .inl x => .int x
  | .inr (.inl x) => .long x.toInt64
  | .inr (.inr k) => .ref (q k)
theorem z_cv_cat (q : Nat → Nat) (v : zV) : (z_cv q v).category = z_cat v := by
  rcases v with x | x | k <;> rfl
theorem z_cats_eq (q : Nat → Nat) (r : List zV) : ((r.map (z_cv q)).map fun v => v.category).sum = z_cats r := by
  rw [List.map_map]
  unfold z_cats
  congr 1
  exact List.map_congr_left fun v _ => z_cv_cat q v
def z_fs (q : Nat → Nat) (fk : List (Option Nat)) (f : Nat → Int32) : List Value := (List.range fk.length).map fun i => match fk[i]? with
  | some (some o) => .ref (q o)
  | _ => .int (f i)
theorem z_fs_len (q : Nat → Nat) (fk : List (Option Nat)) (f : Nat → Int32) : (z_fs q fk f).length = fk.length := by simp [z_fs]
theorem z_fs_int {q : Nat → Nat} {fk : List (Option Nat)} (f : Nat → Int32) {i : Nat} (h : fk[i]? = some none) : (z_fs q fk f)[i]? = some (.int (f i)) := by
  have hi := (List.getElem?_eq_some_iff.mp h).1
  simp [z_fs, List.getElem?_range hi, h]
theorem z_fs_ref {q : Nat → Nat} {fk : List (Option Nat)} (f : Nat → Int32) {i o : Nat} (h : fk[i]? = some (some o)) : (z_fs q fk f)[i]? = some (.ref (q o)) := by
  have hi := (List.getElem?_eq_some_iff.mp h).1
  simp [z_fs, List.getElem?_range hi, h]
theorem z_fs_set {q : Nat → Nat} {fk : List (Option Nat)} (f : Nat → Int32) {i : Nat} (h : fk[i]? = some none) (v : Int32) : (z_fs q fk f).set i (.int v) = z_fs q fk (upd f i v) := by
  have hi := (List.getElem?_eq_some_iff.mp h).1
  apply List.ext_getElem?
  intro j
  rw [List.getElem?_set]
  by_cases hj : i = j
  · subst hj
    rw [if_pos rfl, z_fs_int _ h, if_pos (by rw [z_fs_len]; exact hi)]
    simp [upd]
  · rw [if_neg hj]
    by_cases hl : j < fk.length
    · simp only [z_fs, List.getElem?_map, List.getElem?_range hl, Option.map_some]
      congr 1
      have hu : upd f i v j = f j := by unfold upd; rw [if_neg (fun e => hj e.symm)]
      rcases fk[j]? with _ | _ | o <;> simp [hu]
    · have h1 : ∀ g, (z_fs q fk g)[j]? = none := fun g => List.getElem?_eq_none (by rw [z_fs_len]; omega)
      rw [h1, h1]
def z_el (cI cZ cJ : ClassId) (q : Nat → Nat) (f : Nat → Int32) (k : zK) : va_E := match k with
  | .inl (t, n) => if t = 2 then .inl (cJ, n, .inr (.inl fun i => (f i).toInt64)) else .inl (if t = 0 then cI else cZ, n, .inl f)
  | .inr (ci, fk) => .inr (ci, z_fs q fk f)
def z_W (cI cZ cJ : ClassId) (q : Nat → Nat) (S : zS) : va_W := (List.range z_lay.length).map fun j => (q j, z_el cI cZ cJ q (S j) (z_lay.getD j (.inl (0, 0))))
theorem z_W_at {cI cZ cJ : ClassId} {q : Nat → Nat} (S : zS) {j : Nat} {k : zK} (h : z_lay[j]? = some k) : (z_W cI cZ cJ q S)[j]? = some (q j, z_el cI cZ cJ q (S j) k) := by
  have hj := (List.getElem?_eq_some_iff.mp h).1
  simp [z_W, List.getElem?_range hj, List.getD_eq_getElem?_getD, h]
theorem z_W_set {cI cZ cJ : ClassId} {q : Nat → Nat} {S S' : zS} {j : Nat} {k : zK} {e : va_E} (h : z_lay[j]? = some k) (he : z_el cI cZ cJ q (S' j) k = e) (hne : ∀ i, i ≠ j → S' i = S i) : (z_W cI cZ cJ q S).set j (q j, e) = z_W cI cZ cJ q S' := by
  have hj := (List.getElem?_eq_some_iff.mp h).1
  apply List.ext_getElem?
  intro i
  rw [List.getElem?_set]
  by_cases hij : j = i
  · subst hij
    rw [if_pos rfl, if_pos (by simp [z_W]; exact hj), z_W_at S' h, he]
  · rw [if_neg hij]
    by_cases hi : i < z_lay.length
    · simp only [z_W, List.getElem?_map, List.getElem?_range hi, Option.map_some, hne i (fun e => hij e.symm)]
    · rw [List.getElem?_eq_none (by simp [z_W]; omega), List.getElem?_eq_none (by simp [z_W]; omega)]
theorem z_up_at (S : zS) (j i : Nat) (v : Int32) : z_up S j i v j = upd (S j) i v := by simp [z_up]
theorem z_up_ne (S : zS) (j i : Nat) (v : Int32) (a : Nat) (h : a ≠ j) : z_up S j i v a = S a := by simp [z_up, h]
/-- locals: those that are known, and short -/
def z_al (q : Nat → Nat) (lv : List (Option zV)) : List (Nat × Value) := (List.range lv.length).filterMap fun i => match lv[i]? with
  | some (some v) => if z_cat v = 1 then some (i, z_cv q v) else none
  | _ => none
theorem z_al_in {q : Nat → Nat} {lv : List (Option zV)} {i : Nat} {v : zV} (h : lv[i]? = some (some v)) (hc : z_cat v = 1) : (i, z_cv q v) ∈ z_al q lv := by
  have hi := (List.getElem?_eq_some_iff.mp h).1
  exact List.mem_filterMap.mpr ⟨i, List.mem_range.mpr hi, by simp [h, hc]⟩
theorem z_al_of {q : Nat → Nat} {lv : List (Option zV)} {x : Nat × Value} (h : x ∈ z_al q lv) : ∃ v, lv[x.1]? = some (some v) ∧ z_cat v = 1 ∧ x.2 = z_cv q v := by
  obtain ⟨i, -, h2⟩ := List.mem_filterMap.mp h
  split at h2
  · next v hv =>
    split at h2
    · next hc => cases h2; exact ⟨v, hv, hc, rfl⟩
    · cases h2
  · cases h2
theorem z_al_at {q : Nat → Nat} {lv : List (Option zV)} {ls : Array Slot} {n i : Nat} {v : zV} (hl : lv_has ls n (z_al q lv)) (h : lv[i]? = some (some v)) (hc : z_cat v = 1) : ls[i]? = some (.val (z_cv q v)) := hl.2.2 _ (z_al_in h hc)
/-- behind a store -/
theorem z_al_set {q : Nat → Nat} {lv : List (Option zV)} {ls : Array Slot} {n i : Nat} {v : zV} (hi : i < lv.length) (hc : z_cat v = 1) (hl : lv_has ls n ((i, z_cv q v) :: (z_al q lv).filter (fun x => !(x.1 == i) && !(x.1 + 1 == i && x.2.category == 2)))) : lv_has ls n (z_al q (lv.set i (some v))) := by
  refine ⟨hl.1, hl.2.1, fun x hx => ?_⟩
  obtain ⟨w, h1, h2, h3⟩ := z_al_of hx
  apply hl.2.2
  by_cases hxi : x.1 = i
  · rw [hxi, List.getElem?_set_self hi] at h1
    cases h1
    have : x = (i, z_cv q v) := by rw [← hxi, ← h3]
    rw [this]
    exact List.mem_cons_self
  · rw [List.getElem?_set_ne (fun e => hxi e.symm)] at h1
    refine List.mem_cons_of_mem _ (List.mem_filter.mpr ⟨?_, ?_⟩)
    · have := z_al_in (q := q) h1 h2
      rw [← h3] at this
      exact this
    · have hcat : x.2.category = 1 := by rw [h3, z_cv_cat, h2]
      simp [hxi, hcat]
def z_dcl : List MethodName := [⟨"java/lang/RuntimeException", "<init>", "()V"⟩, ⟨"java/lang/Exception", "<init>", "()V"⟩, ⟨"java/lang/Throwable", "<init>", "()V"⟩]
def z_Fx (dC : Nat → ClassId) (dI : Nat → Nat → Nat) (cI cZ cJ : ClassId) (q : Nat → Nat) (A : Nat → Prop) (L : Nat) (X : Nat → Int32) (U : State) (H : Heap) : Prop :=
  va_K (dC, dI) vwCl [(cI, .int), (cZ, .boolean)] U ∧ va_Nw (.methodLinkNest RX6 66 yX11_firstOf RX11) U ∧ vx_Zq Bundle.tN "UNASSIGNED_STACK" Bundle.steD A U H ∧ vx_Zq Bundle.tN "SUPPRESSED_SENTINEL" Bundle.listD A U H ∧ va_X (q 1000) L X U H ∧ q 1000 < H.size ∧ (∀ E E', E' < E → E < 3 → (∃ m, ¬ z_th m = []) → va_Nc (z_exn E) (z_exn E') U) ∧ (∀ y ∈ z_dcl, va_Nw (.declares y) U) ∧ ∀ E, E < 3 → va_Nw (.castable (z_exn E) (z_exn E)) U
def z_Ap (q : Nat → Nat) (A : Nat → Prop) : Prop := (∀ i j, i < z_lay.length → j < z_lay.length → q i = q j → i = j) ∧ (∀ j, j < z_lay.length → A (q j)) ∧ ¬ A (q 1000)
theorem z_Ap.D {cI cZ cJ : ClassId} {q : Nat → Nat} {A : Nat → Prop} (h : z_Ap q A) (S : zS) : va_D A (z_W cI cZ cJ q S) := by
  have key : ∀ (k : Nat) (x : Nat × va_E), (z_W cI cZ cJ q S)[k]? = some x → k < z_lay.length ∧ x.1 = q k := by
    intro k x hk
    have hl : k < z_lay.length := by simpa [z_W] using (List.getElem?_eq_some_iff.mp hk).1
    simp only [z_W, List.getElem?_map, List.getElem?_range hl, Option.map_some, Option.some.injEq] at hk
    exact ⟨hl, by rw [← hk]⟩
  refine ⟨fun i j x y hi hj hxy => ?_, fun k x hk => ?_⟩
  · obtain ⟨h1, e1⟩ := key i x hi
    obtain ⟨h2, e2⟩ := key j y hj
    exact h.1 i j h1 h2 (by rw [← e1, ← e2, hxy])
  · obtain ⟨h1, e1⟩ := key k x hk
    rw [e1]; exact h.2.1 k h1
theorem z_Fx.go {dC : Nat → ClassId} {dI : Nat → Nat → Nat} {cI cZ cJ : ClassId} {q : Nat → Nat} {A : Nat → Prop} {L : Nat} {X : Nat → Int32} {s U : State} {H0 H : Heap} {locs : List Loc} (h : z_Fx dC dI cI cZ cJ q A L X s H0) (hA : ¬ A (q 1000)) (hS : va_S A H0 H locs) (hW : s.WarmedH U.vm) : z_Fx dC dI cI cZ cJ q A L X U H := by
  obtain ⟨h1, h2, h3, h4, h5, h6, h7, h8, h9⟩ := h
  exact ⟨va_K.moved hW.alike h1, va_Nw.warmM hW h2, (h3.kept (fun a ha hn => hS.2.1 a ha hn)).moved hW.alike, (h4.kept (fun a ha hn => hS.2.1 a ha hn)).moved hW.alike, (h5.kept (hS.2.1 _ h6 hA)).moved hW.alike, Nat.lt_of_lt_of_le h6 hS.1, fun E E' a b c => (h7 E E' a b c).moved hW.alike, fun y hy => va_Nw.warmD hW (h8 y hy), fun E hE => va_Nw.warmC hW (h9 E hE)⟩
