/-! the kinds of calls -/
theorem z_mok_un {a : Nat} (h : z_mok a = true) : z_cw a ∈ z_T ∧ (z_st a = 1 → Cond.static (z_y a) ∈ z_T) ∧ (z_st a ≠ 1 → Cond.instanceMethod (z_y a) ∈ z_T ∧ Cond.selects (z_cls a) (z_y a) (z_y a) ∈ z_T) ∧ Cond.initialized (z_cls a) ∈ z_T ∧ plainFor (z_y a) = true ∧ (z_cls a ≠ "java/lang/invoke/MethodHandle" ∧ z_cls a ≠ "java/lang/invoke/VarHandle") ∧ (parseMethodDescriptor (z_y a).desc).map (fun d => d.parameters.length) = some (z_na a) ∧ (z_th a).isEmpty = (z_tb a).isEmpty ∧ z_na a + (1 - z_st a) ≤ z_ml a := by
  simp only [z_mok, Bool.and_eq_true, decide_eq_true_eq] at h
  obtain ⟨⟨⟨⟨⟨⟨⟨h1, h2⟩, h3⟩, h4⟩, h5⟩, h6⟩, h7⟩, h8⟩ := h
  refine ⟨?_, fun hs => ?_, fun hs => ?_, z_w_in h3, h4, h5, h6, h7, h8⟩
  · unfold z_cw
    split at h1
    · next hb => rw [if_pos hb]; exact z_w_in h1
    · next hb => rw [if_neg hb]; exact z_w_in h1
  · rw [if_pos hs] at h2; exact z_w_in h2
  · rw [if_neg hs, Bool.and_eq_true] at h2; exact ⟨z_w_in h2.1, z_w_in h2.2⟩
theorem z_ws_in {a : Nat} (h : z_cw a ∈ z_T) : ∀ w ∈ z_ws a, w ∈ z_T := fun w hw => (List.mem_cons.mp hw).elim (fun e => by rw [e]; exact h) id
theorem z_ws_code {a : Nat} (hb : (z_tb a).isEmpty = true) : z_ws a = Cond.code (z_y a) (z_b a) (z_ml a) (z_rt a) :: z_T := by unfold z_ws z_cw; rw [if_pos hb]
theorem z_ws_with {a : Nat} (hb : ¬ (z_tb a).isEmpty = true) : z_ws a = Cond.codeWith (z_y a) (z_b a) (z_ml a) (z_rt a) (z_tb a) :: z_T := by unfold z_ws z_cw; rw [if_neg hb]
section ZCR
variable {l : Launch} {dC : Nat → ClassId} {dI : Nat → Nat → Nat} {cI cZ cJ : ClassId} {q : Nat → Nat} {A : Nat → Prop} {L : Nat} {X : Nat → Int32}
variable {p : Program} {e : Env} {R : Room} {s : State} {m : MethodId} {args : Array Value} {below : List Frame} {meth : Method} {c : Code} {Q : State → Prop} {mi : Nat} {cells slots : Nat} {H : Heap} {locs : List Loc}
variable {pc : Nat} {ls : Array Slot} {lw : List (Nat × Value)}
theorem z_cal_un {a : Nat} (h : z_cal mi a = true) (hC : z_Cx l mi p R s m args c) (n : Nat) : (z_rm a n).frames + 1 ≤ R.frames ∧ 8 + (z_ml a + 11) + (z_rm a n).locals ≤ R.locals := by
  simp only [z_cal, Bool.and_eq_true, decide_eq_true_eq] at h
  obtain ⟨-, -, -, -, -, h1, h2, -⟩ := hC
  exact ⟨Nat.le_trans h.1.2 h1, Nat.le_trans h.2 h2⟩

theorem z_cV {a ix n : Nat} {as rest : List zV} {S S2 : zS} {r : Option zV} (hC : z_Cx l mi p R s m args c) (hF : z_Fx dC dI cI cZ cJ q A L X s s.heap) (hA : z_Ap q A) (hd : decode (z_b mi) pc = .ok (.invokevirtual ix, 3)) (hw : Cond.methodLink (z_cls mi) ix (z_y a) ∈ z_T) {ci k : Nat} {fk : List (Option Nat)} (hlay : z_lay[k]? = some (.inr (ci, fk))) (hcl : (vwCl[ci]?).map (·.1) = some (z_cls a)) (hcal : z_cal mi a = true) (hmok : z_mok a = true) (htb : (z_tb a).isEmpty = true) (hst : z_st a = 0) (hna : as.length = z_na a) (hcat : z_cats rest ≤ 8)
    (hM : Met l (z_y a) (z_ws a) (z_rm a n) (z_Pc dC dI cI cZ cJ q A L X (.inr (.inr k) :: as) S) (z_Qc dC dI cI cZ cJ q A X r S2) n (6 * n) A) (hP : va_P (dC, dI) vwCl (z_W cI cZ cJ q S) H) (hX : S 1000 = X) (hS : va_S A s.heap H locs) (hl : lv_has ls (z_ml mi) lw) (hce : cells + n ≤ R.cells) (hsl : slots + 6 * n ≤ R.slots) :
    va_Run p l e R s m args below meth c H locs cells slots n (6 * n) (F0 m pc ls ((as.map (z_cv q)).reverse ++ .ref (q k) :: rest.map (z_cv q))) (rest.map (z_cv q)) (z_Qc dC dI cI cZ cJ q A X r S2 (Value.ref (q k) :: as.map (z_cv q)).toArray) A := by
  have hroom := z_cal_un hcal hC n
  obtain ⟨hx, hb, hml, hown, hts, hfr, hlo, htr⟩ := hC
  obtain ⟨m1, m2, m3, m4, m5, m6, m7, m8, m9⟩ := z_mok_un hmok
  obtain ⟨mi1, mi2⟩ := m3 (by omega)
  have hG : GoodIn z_T (wsV (z_cls mi) ix (z_cls a) (z_y a) (z_ws a)) := z_goodIn (fun w h => by
    simp only [wsV, List.mem_append, List.mem_cons, List.not_mem_nil, or_false] at h
    rcases h with (rfl | rfl | rfl | rfl) | h
    · exact hw
    · exact mi1
    · exact mi2
    · exact m4
    · exact z_ws_in m1 w h)
  obtain ⟨r9, hr9, hc9⟩ : ∃ r9, vwCl[ci]? = some r9 ∧ r9.1 = z_cls a := by
    rcases hv : vwCl[ci]? with _ | r9
    · rw [hv] at hcl; cases hcl
    · rw [hv] at hcl; exact ⟨r9, rfl, Option.some.inj hcl⟩
  have hrecv := va_recv hF.1 hP hr9 (z_W_at S hlay)
  rw [hc9] at hrecv
  exact va_runV (As := as.map (z_cv q)) (rest := rest.map (z_cv q)) ⟨hx, hb, hml, hown, hts⟩ hM (cwV (z_na a) hts hG (z_ws_code htb) rfl rfl ⟨rfl, m6.1, m6.2, m7⟩ hroom) ⟨z_blind _ _, hrecv, fun U hU hW => ⟨rfl, by rw [hU]; exact hF.go hA.2.2 hS hW, by rw [hU]; exact hP, hX⟩⟩ rfl (by rw [List.length_map]; exact hna) hl.1 rfl (lv_room (by rw [z_cats_eq]; exact hcat)) hd ⟨hce, hsl⟩
theorem z_cVX {a ix n : Nat} {as rest : List zV} {S S2 : zS} {E : Nat} (hC : z_Cx l mi p R s m args c) (hF : z_Fx dC dI cI cZ cJ q A L X s s.heap) (hA : z_Ap q A) (hd : decode (z_b mi) pc = .ok (.invokevirtual ix, 3)) (hw : Cond.methodLink (z_cls mi) ix (z_y a) ∈ z_T) {ci k : Nat} {fk : List (Option Nat)} (hlay : z_lay[k]? = some (.inr (ci, fk))) (hcl : (vwCl[ci]?).map (·.1) = some (z_cls a)) (hcal : z_cal mi a = true) (hmok : z_mok a = true) (htb : (z_tb a).isEmpty = true) (hst : z_st a = 0) (hna : as.length = z_na a) (hcat : z_cats rest ≤ 8)
    (hM : vx_Met l (z_y a) (z_ws a) (z_rm a n) (z_Pc dC dI cI cZ cJ q A L X (.inr (.inr k) :: as) S) (fun _ _ _ _ => False) (z_Xc dC dI cI cZ cJ q A X E S2) n (6 * n) A) (hP : va_P (dC, dI) vwCl (z_W cI cZ cJ q S) H) (hX : S 1000 = X) (hS : va_S A s.heap H locs) (hl : lv_has ls (z_ml mi) lw) (hce : cells + n ≤ R.cells) (hsl : slots + 6 * n ≤ R.slots) :
    vx_Run p l e R s m args below meth c H locs cells slots n (6 * n) (F0 m pc ls ((as.map (z_cv q)).reverse ++ .ref (q k) :: rest.map (z_cv q))) (rest.map (z_cv q)) ((fun _ _ _ _ => False : Array Value → State → Outcome → State → Prop) (Value.ref (q k) :: as.map (z_cv q)).toArray) (z_Xc dC dI cI cZ cJ q A X E S2) A := by
  have hroom := z_cal_un hcal hC n
  obtain ⟨hx, hb, hml, hown, hts, hfr, hlo, htr⟩ := hC
  obtain ⟨m1, m2, m3, m4, m5, m6, m7, m8, m9⟩ := z_mok_un hmok
  obtain ⟨mi1, mi2⟩ := m3 (by omega)
  have hG : GoodIn z_T (wsV (z_cls mi) ix (z_cls a) (z_y a) (z_ws a)) := z_goodIn (fun w h => by
    simp only [wsV, List.mem_append, List.mem_cons, List.not_mem_nil, or_false] at h
    rcases h with (rfl | rfl | rfl | rfl) | h
    · exact hw
    · exact mi1
    · exact mi2
    · exact m4
    · exact z_ws_in m1 w h)
  obtain ⟨r9, hr9, hc9⟩ : ∃ r9, vwCl[ci]? = some r9 ∧ r9.1 = z_cls a := by
    rcases hv : vwCl[ci]? with _ | r9
    · rw [hv] at hcl; cases hcl
    · rw [hv] at hcl; exact ⟨r9, rfl, Option.some.inj hcl⟩
  have hrecv := va_recv hF.1 hP hr9 (z_W_at S hlay)
  rw [hc9] at hrecv
  exact vx_runV (As := as.map (z_cv q)) (rest := rest.map (z_cv q)) ⟨hx, hb, hml, hown, hts⟩ hM (cwV (z_na a) hts hG (z_ws_code htb) rfl rfl ⟨rfl, m6.1, m6.2, m7⟩ hroom) ⟨z_blind _ _, hrecv, fun U hU hW => ⟨rfl, by rw [hU]; exact hF.go hA.2.2 hS hW, by rw [hU]; exact hP, hX⟩⟩ rfl (by rw [List.length_map]; exact hna) hl.1 rfl (lv_room (by rw [z_cats_eq]; exact hcat)) hd ⟨hce, hsl⟩
theorem z_cS {a ix n : Nat} {as rest : List zV} {S S2 : zS} {r : Option zV} (hC : z_Cx l mi p R s m args c) (hF : z_Fx dC dI cI cZ cJ q A L X s s.heap) (hA : z_Ap q A) (hd : decode (z_b mi) pc = .ok (.invokestatic ix, 3)) (hw : Cond.methodLink (z_cls mi) ix (z_y a) ∈ z_T) (hcal : z_cal mi a = true) (hmok : z_mok a = true) (htb : (z_tb a).isEmpty = true) (hst : z_st a = 1) (hna : as.length = z_na a) (hcat : z_cats rest ≤ 8)
    (hM : Met l (z_y a) (z_ws a) (z_rm a n) (z_Pc dC dI cI cZ cJ q A L X as S) (z_Qc dC dI cI cZ cJ q A X r S2) n (6 * n) A) (hP : va_P (dC, dI) vwCl (z_W cI cZ cJ q S) H) (hX : S 1000 = X) (hS : va_S A s.heap H locs) (hl : lv_has ls (z_ml mi) lw) (hce : cells + n ≤ R.cells) (hsl : slots + 6 * n ≤ R.slots) :
    va_Run p l e R s m args below meth c H locs cells slots n (6 * n) (F0 m pc ls ((as.map (z_cv q)).reverse ++ rest.map (z_cv q))) (rest.map (z_cv q)) (z_Qc dC dI cI cZ cJ q A X r S2 (as.map (z_cv q)).toArray) A := by
  have hroom := z_cal_un hcal hC n
  obtain ⟨hx, hb, hml, hown, hts, hfr, hlo, htr⟩ := hC
  obtain ⟨m1, m2, m3, m4, m5, m6, m7, m8, m9⟩ := z_mok_un hmok
  have hG : GoodIn z_T (va_wsS (z_cls mi) ix (z_y a) (z_ws a)) := z_goodIn (fun w h => by
    simp only [va_wsS, List.mem_append, List.mem_cons, List.not_mem_nil, or_false] at h
    rcases h with (rfl | rfl | rfl) | h
    · exact hw
    · exact m2 hst
    · exact m4
    · exact z_ws_in m1 w h)
  exact va_runS (As := as.map (z_cv q)) (rest := rest.map (z_cv q)) ⟨hx, hb, hml, hown, hts⟩ hM (va_cwS (z_na a) hts hG (z_ws_code htb) rfl rfl ⟨m6.1, m6.2, m7⟩ hroom) ⟨z_blind _ _, fun U hU hW => ⟨rfl, by rw [hU]; exact hF.go hA.2.2 hS hW, by rw [hU]; exact hP, hX⟩⟩ rfl (by rw [List.length_map]; exact hna) hl.1 rfl (lv_room (by rw [z_cats_eq]; exact hcat)) hd ⟨hce, hsl⟩
theorem z_cSX {a ix n : Nat} {as rest : List zV} {S S2 : zS} {E : Nat} (hC : z_Cx l mi p R s m args c) (hF : z_Fx dC dI cI cZ cJ q A L X s s.heap) (hA : z_Ap q A) (hd : decode (z_b mi) pc = .ok (.invokestatic ix, 3)) (hw : Cond.methodLink (z_cls mi) ix (z_y a) ∈ z_T) (hcal : z_cal mi a = true) (hmok : z_mok a = true) (htb : (z_tb a).isEmpty = true) (hst : z_st a = 1) (hna : as.length = z_na a) (hcat : z_cats rest ≤ 8)
    (hM : vx_Met l (z_y a) (z_ws a) (z_rm a n) (z_Pc dC dI cI cZ cJ q A L X as S) (fun _ _ _ _ => False) (z_Xc dC dI cI cZ cJ q A X E S2) n (6 * n) A) (hP : va_P (dC, dI) vwCl (z_W cI cZ cJ q S) H) (hX : S 1000 = X) (hS : va_S A s.heap H locs) (hl : lv_has ls (z_ml mi) lw) (hce : cells + n ≤ R.cells) (hsl : slots + 6 * n ≤ R.slots) :
    vx_Run p l e R s m args below meth c H locs cells slots n (6 * n) (F0 m pc ls ((as.map (z_cv q)).reverse ++ rest.map (z_cv q))) (rest.map (z_cv q)) ((fun _ _ _ _ => False : Array Value → State → Outcome → State → Prop) (as.map (z_cv q)).toArray) (z_Xc dC dI cI cZ cJ q A X E S2) A := by
  have hroom := z_cal_un hcal hC n
  obtain ⟨hx, hb, hml, hown, hts, hfr, hlo, htr⟩ := hC
  obtain ⟨m1, m2, m3, m4, m5, m6, m7, m8, m9⟩ := z_mok_un hmok
  have hG : GoodIn z_T (va_wsS (z_cls mi) ix (z_y a) (z_ws a)) := z_goodIn (fun w h => by
    simp only [va_wsS, List.mem_append, List.mem_cons, List.not_mem_nil, or_false] at h
    rcases h with (rfl | rfl | rfl) | h
    · exact hw
    · exact m2 hst
    · exact m4
    · exact z_ws_in m1 w h)
  exact vx_runS (As := as.map (z_cv q)) (rest := rest.map (z_cv q)) ⟨hx, hb, hml, hown, hts⟩ hM (va_cwS (z_na a) hts hG (z_ws_code htb) rfl rfl ⟨m6.1, m6.2, m7⟩ hroom) ⟨z_blind _ _, fun U hU hW => ⟨rfl, by rw [hU]; exact hF.go hA.2.2 hS hW, by rw [hU]; exact hP, hX⟩⟩ rfl (by rw [List.length_map]; exact hna) hl.1 rfl (lv_room (by rw [z_cats_eq]; exact hcat)) hd ⟨hce, hsl⟩
theorem z_cT {a ix n : Nat} {as rest : List zV} {S S2 : zS} {r : Option zV} (hC : z_Cx l mi p R s m args c) (hF : z_Fx dC dI cI cZ cJ q A L X s s.heap) (hA : z_Ap q A) (hd : decode (z_b mi) pc = .ok (.invokestatic ix, 3)) (hw : Cond.methodLink (z_cls mi) ix (z_y a) ∈ z_T) (hcal : z_cal mi a = true) (hmok : z_mok a = true) (htb : ¬ (z_tb a).isEmpty = true) (hst : z_st a = 1) (hna : as.length = z_na a) (hcat : z_cats rest ≤ 8)
    (hM : Met l (z_y a) (z_ws a) (z_rm a n) (z_Pc dC dI cI cZ cJ q A L X as S) (z_Qc dC dI cI cZ cJ q A X r S2) n (6 * n) A) (hP : va_P (dC, dI) vwCl (z_W cI cZ cJ q S) H) (hX : S 1000 = X) (hS : va_S A s.heap H locs) (hl : lv_has ls (z_ml mi) lw) (hce : cells + n ≤ R.cells) (hsl : slots + 6 * n ≤ R.slots) :
    va_Run p l e R s m args below meth c H locs cells slots n (6 * n) (F0 m pc ls ((as.map (z_cv q)).reverse ++ rest.map (z_cv q))) (rest.map (z_cv q)) (z_Qc dC dI cI cZ cJ q A X r S2 (as.map (z_cv q)).toArray) A := by
  have hroom := z_cal_un hcal hC n
  obtain ⟨hx, hb, hml, hown, hts, hfr, hlo, htr⟩ := hC
  obtain ⟨m1, m2, m3, m4, m5, m6, m7, m8, m9⟩ := z_mok_un hmok
  have hG : GoodIn z_T (va_wsS (z_cls mi) ix (z_y a) (z_ws a)) := z_goodIn (fun w h => by
    simp only [va_wsS, List.mem_append, List.mem_cons, List.not_mem_nil, or_false] at h
    rcases h with (rfl | rfl | rfl) | h
    · exact hw
    · exact m2 hst
    · exact m4
    · exact z_ws_in m1 w h)
  exact vx_runSW (As := as.map (z_cv q)) (rest := rest.map (z_cv q)) ⟨hx, hb, hml, hown, hts⟩ hM (vx_cwSW (z_na a) hts hG (z_ws_with htb) rfl rfl ⟨m6.1, m6.2, m7⟩ hroom) ⟨z_blind _ _, fun U hU hW => ⟨rfl, by rw [hU]; exact hF.go hA.2.2 hS hW, by rw [hU]; exact hP, hX⟩⟩ rfl (by rw [List.length_map]; exact hna) hl.1 rfl (lv_room (by rw [z_cats_eq]; exact hcat)) hd ⟨hce, hsl⟩
theorem z_cTX {a ix n : Nat} {as rest : List zV} {S S2 : zS} {E : Nat} (hC : z_Cx l mi p R s m args c) (hF : z_Fx dC dI cI cZ cJ q A L X s s.heap) (hA : z_Ap q A) (hd : decode (z_b mi) pc = .ok (.invokestatic ix, 3)) (hw : Cond.methodLink (z_cls mi) ix (z_y a) ∈ z_T) (hcal : z_cal mi a = true) (hmok : z_mok a = true) (htb : ¬ (z_tb a).isEmpty = true) (hst : z_st a = 1) (hna : as.length = z_na a) (hcat : z_cats rest ≤ 8)
    (hM : vx_Met l (z_y a) (z_ws a) (z_rm a n) (z_Pc dC dI cI cZ cJ q A L X as S) (fun _ _ _ _ => False) (z_Xc dC dI cI cZ cJ q A X E S2) n (6 * n) A) (hP : va_P (dC, dI) vwCl (z_W cI cZ cJ q S) H) (hX : S 1000 = X) (hS : va_S A s.heap H locs) (hl : lv_has ls (z_ml mi) lw) (hce : cells + n ≤ R.cells) (hsl : slots + 6 * n ≤ R.slots) :
    vx_Run p l e R s m args below meth c H locs cells slots n (6 * n) (F0 m pc ls ((as.map (z_cv q)).reverse ++ rest.map (z_cv q))) (rest.map (z_cv q)) ((fun _ _ _ _ => False : Array Value → State → Outcome → State → Prop) (as.map (z_cv q)).toArray) (z_Xc dC dI cI cZ cJ q A X E S2) A := by
  have hroom := z_cal_un hcal hC n
  obtain ⟨hx, hb, hml, hown, hts, hfr, hlo, htr⟩ := hC
  obtain ⟨m1, m2, m3, m4, m5, m6, m7, m8, m9⟩ := z_mok_un hmok
  have hG : GoodIn z_T (va_wsS (z_cls mi) ix (z_y a) (z_ws a)) := z_goodIn (fun w h => by
    simp only [va_wsS, List.mem_append, List.mem_cons, List.not_mem_nil, or_false] at h
    rcases h with (rfl | rfl | rfl) | h
    · exact hw
    · exact m2 hst
    · exact m4
    · exact z_ws_in m1 w h)
  exact vx_runSX (As := as.map (z_cv q)) (rest := rest.map (z_cv q)) ⟨hx, hb, hml, hown, hts⟩ hM (vx_cwSW (z_na a) hts hG (z_ws_with htb) rfl rfl ⟨m6.1, m6.2, m7⟩ hroom) ⟨z_blind _ _, fun U hU hW => ⟨rfl, by rw [hU]; exact hF.go hA.2.2 hS hW, by rw [hU]; exact hP, hX⟩⟩ rfl (by rw [List.length_map]; exact hna) hl.1 rfl (lv_room (by rw [z_cats_eq]; exact hcat)) hd ⟨hce, hsl⟩
theorem z_cN {a ix n : Nat} {as rest : List zV} {S S2 : zS} {r : Option zV} (hC : z_Cx l mi p R s m args c) (hF : z_Fx dC dI cI cZ cJ q A L X s s.heap) (hA : z_Ap q A) (hd : decode (z_b mi) pc = .ok (.invokestatic 66, 3)) (hy : z_y a = yX11_firstOf) (hy2 : z_cls mi = RX6) (hcal : z_cal mi a = true) (hmok : z_mok a = true) (htb : (z_tb a).isEmpty = true) (hst : z_st a = 1) (hna : as.length = z_na a) (hcat : z_cats rest ≤ 8)
    (hM : Met l (z_y a) (z_ws a) (z_rm a n) (z_Pc dC dI cI cZ cJ q A L X as S) (z_Qc dC dI cI cZ cJ q A X r S2) n (6 * n) A) (hP : va_P (dC, dI) vwCl (z_W cI cZ cJ q S) H) (hX : S 1000 = X) (hS : va_S A s.heap H locs) (hl : lv_has ls (z_ml mi) lw) (hce : cells + n ≤ R.cells) (hsl : slots + 6 * n ≤ R.slots) :
    va_Run p l e R s m args below meth c H locs cells slots n (6 * n) (F0 m pc ls ((as.map (z_cv q)).reverse ++ rest.map (z_cv q))) (rest.map (z_cv q)) (z_Qc dC dI cI cZ cJ q A X r S2 (as.map (z_cv q)).toArray) A := by
  have hroom := z_cal_un hcal hC n
  obtain ⟨hx, hb, hml, hown, hts, hfr, hlo, htr⟩ := hC
  obtain ⟨m1, m2, m3, m4, m5, m6, m7, m8, m9⟩ := z_mok_un hmok
  have hlk : va_Nw (.methodLinkNest (z_cls mi) 66 (z_y a) RX11) s := by rw [hy, hy2]; exact hF.2.1
  exact va_runSN (As := as.map (z_cv q)) (rest := rest.map (z_cv q)) ⟨hx, hb, hml, hown, hts⟩ hM ⟨va_cnB (z_na a) hts (z_goodIn (z_ws_in m1)) (z_ws_code htb) rfl rfl hlk (hts _ m4) ⟨m6.1, m6.2, m7⟩ hroom, hts _ (m2 hst), trivial⟩ ⟨z_blind _ _, fun U hU hW => ⟨rfl, by rw [hU]; exact hF.go hA.2.2 hS hW, by rw [hU]; exact hP, hX⟩⟩ rfl (by rw [List.length_map]; exact hna) hl.1 rfl (lv_room (by rw [z_cats_eq]; exact hcat)) hd ⟨hce, hsl⟩
end ZCR
