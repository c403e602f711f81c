/-! the throw of the class's own exceptions -/
theorem z_ta0 : ∀ w ∈ (vx_at0 RX11 387 "java/lang/IndexOutOfBoundsException" ["java/lang/RuntimeException", "java/lang/Exception"]).filter goodWord, w ∈ lw_tbl := by decide +kernel
theorem z_tb0 : ∀ w ∈ (vx_at0 RX11 387 "java/lang/IndexOutOfBoundsException" ["java/lang/RuntimeException", "java/lang/Exception"]).filter (fun w => !goodWord w), w ∈ Cond.castable "java/lang/IndexOutOfBoundsException" "java/lang/IndexOutOfBoundsException" :: z_dcl.map Cond.declares := by decide +kernel
theorem z_tc0 : ∀ w ∈ (vx_at0 RX11 387 "java/lang/IndexOutOfBoundsException" ["java/lang/RuntimeException", "java/lang/Exception"]), vx_ot w = true := by decide +kernel
theorem z_td0 : Cond.initialized "java/lang/IndexOutOfBoundsException" ∈ z_T := z_w_in (k := 18) (by decide +kernel)
theorem z_ta1 : ∀ w ∈ (vx_at0 RX11 390 "java/lang/IllegalArgumentException" ["java/lang/RuntimeException", "java/lang/Exception"]).filter goodWord, w ∈ lw_tbl := by decide +kernel
theorem z_tb1 : ∀ w ∈ (vx_at0 RX11 390 "java/lang/IllegalArgumentException" ["java/lang/RuntimeException", "java/lang/Exception"]).filter (fun w => !goodWord w), w ∈ Cond.castable "java/lang/IllegalArgumentException" "java/lang/IllegalArgumentException" :: z_dcl.map Cond.declares := by decide +kernel
theorem z_tc1 : ∀ w ∈ (vx_at0 RX11 390 "java/lang/IllegalArgumentException" ["java/lang/RuntimeException", "java/lang/Exception"]), vx_ot w = true := by decide +kernel
theorem z_td1 : Cond.initialized "java/lang/IllegalArgumentException" ∈ z_T := z_w_in (k := 16) (by decide +kernel)
theorem z_ta2 : ∀ w ∈ (vx_at0 RX11 393 "java/lang/IllegalStateException" ["java/lang/RuntimeException", "java/lang/Exception"]).filter goodWord, w ∈ lw_tbl := by decide +kernel
theorem z_tb2 : ∀ w ∈ (vx_at0 RX11 393 "java/lang/IllegalStateException" ["java/lang/RuntimeException", "java/lang/Exception"]).filter (fun w => !goodWord w), w ∈ Cond.castable "java/lang/IllegalStateException" "java/lang/IllegalStateException" :: z_dcl.map Cond.declares := by decide +kernel
theorem z_tc2 : ∀ w ∈ (vx_at0 RX11 393 "java/lang/IllegalStateException" ["java/lang/RuntimeException", "java/lang/Exception"]), vx_ot w = true := by decide +kernel
theorem z_td2 : Cond.initialized "java/lang/IllegalStateException" ∈ z_T := z_w_in (k := 17) (by decide +kernel)
theorem z_te : ∀ E, E < 3 → (∀ w ∈ (vx_at0 RX11 (387 + 3 * E) (z_exn E) ["java/lang/RuntimeException", "java/lang/Exception"]).filter goodWord, w ∈ lw_tbl) ∧ (∀ w ∈ (vx_at0 RX11 (387 + 3 * E) (z_exn E) ["java/lang/RuntimeException", "java/lang/Exception"]).filter (fun w => !goodWord w), w ∈ Cond.castable (z_exn E) (z_exn E) :: z_dcl.map Cond.declares) ∧ (∀ w ∈ vx_at0 RX11 (387 + 3 * E) (z_exn E) ["java/lang/RuntimeException", "java/lang/Exception"], vx_ot w = true) ∧ Cond.initialized (z_exn E) ∈ z_T ∧ Bundle.fit (z_exn E) = true := by
  intro E hE
  match E, hE with
  | 0, _ => exact ⟨z_ta0, z_tb0, z_tc0, z_td0, by decide +kernel⟩
  | 1, _ => exact ⟨z_ta1, z_tb1, z_tc1, z_td1, by decide +kernel⟩
  | 2, _ => exact ⟨z_ta2, z_tb2, z_tc2, z_td2, by decide +kernel⟩
theorem z_tn : ∀ n ∈ ["java/lang/RuntimeException", "java/lang/Exception"], Bundle.fit n = true := by decide +kernel
section ZTH
variable {l : Launch} {dC : Nat → ClassId} {dI : Nat → Nat → Nat} {cI cZ cJ : ClassId} {q : Nat → Nat} {A : Nat → Prop} {L : Nat} {X : Nat → Int32}
variable {p : Program} {e : Env} {R : Room} {s : State} {m : MethodId} {args : Array Value} {below : List Frame} {meth : Method} {c : Code} {Q : State → Prop} {mi : Nat} {cells slots : Nat} {H : Heap} {locs : List Loc} {ls : Array Slot}
theorem z_keep {S : zS} {H1 : Heap} (hP : va_P (dC, dI) vwCl (z_W cI cZ cJ q S) H) (h : ∀ a : Nat, a < H.size → H1[a]? = H[a]?) : va_P (dC, dI) vwCl (z_W cI cZ cJ q S) H1 := hP.kept (fun k x hk => h x.1 ((hP k x hk).lt))
theorem z_thr {i E ix kw C0 S0 : Nat} {v : Int} {S : zS} {Qc : Array Value → State → Outcome → State → Prop} (hE : E < 3) (hC : z_Cx l mi p R s m args c) (hF : z_Fx dC dI cI cZ cJ q A L X s s.heap) (hok : z_okb mi i (29, E, v, ix, kw) = true) (hlocks : meth.locks = false) (htab : ∀ x ∈ c.exceptionTable.toList, False)
    (hP : va_P (dC, dI) vwCl (z_W cI cZ cJ q S) H) (hX : S 1000 = X) (hS : va_S A s.heap H locs) (hl : ls.size = z_ml mi) (hc : cells + 1 ≤ C0) (hs : slots + 6 ≤ S0) (hC0 : C0 ≤ R.cells) (hS0 : S0 ≤ R.slots) :
    W p l e R s m args below meth c H locs cells slots (vx_MQ below Qc (z_Xc dC dI cI cZ cJ q A X E S) args s C0 S0 A) (F0 m (z_pc mi i) ls []) := by
  obtain ⟨hx, hb, hml, hown, hts, hfr, hlo, htr⟩ := hC
  simp only [z_okb, Bool.and_eq_true, decide_eq_true_eq] at hok
  obtain ⟨⟨⟨⟨⟨⟨⟨⟨d0, d3⟩, d4⟩, d7⟩, hw⟩, h6⟩, h81⟩, htb⟩, -, hm, hcl, hv⟩ := hok
  obtain ⟨t1, t2, t3, t4, t5⟩ := z_te E hE
  have hv9 : v.toNat = 387 + 3 * E := hv
  rw [hcl] at hown
  rw [hcl] at hw
  rw [hv9] at d4
  have hk := hts _ (z_w_in hw)
  have hat : ∀ w ∈ vx_at0 RX11 (387 + 3 * E) (z_exn E) ["java/lang/RuntimeException", "java/lang/Exception"], w.before args s = true :=
    vx_hat (fun w hw => hts w (List.mem_filter.mpr ⟨t1 w hw, (List.mem_filter.mp hw).2⟩)) t2 (fun w hw => by
      rcases List.mem_cons.mp hw with rfl | hw
      · exact va_Nw.use rfl (hF.2.2.2.2.2.2.2.2 E hE)
      obtain ⟨y, hy, rfl⟩ := List.mem_map.mp hw
      exact va_Nw.use rfl (hF.2.2.2.2.2.2.2.1 y hy))
  refine vx_throw0 hx hb htr hown t5 z_tn hk (hts _ t4) hat (fun w hw => ?_) hF.2.2.1 hF.2.2.2.1 hS (hl.trans hml.symm) d0 d3 d4 d7 (fun x hx => (htab x hx).elim) (show 2 + 3 < R.frames by omega) (show 0 + (13 * (2 + 1) + 42) ≤ R.locals by omega) (by omega) (by omega) hlocks (fun t hvm hz hk => ?_) hS.2.2 hc hs
  · rcases List.mem_cons.mp hw with rfl | hw
    · rfl
    · rcases List.mem_cons.mp hw with rfl | hw
      · rfl
      · exact t3 w hw
  · exact ⟨⟨rfl, z_keep hP hk, hX⟩, Nat.le_trans hS.1 hz, fun a h1 h2 => (hk a (Nat.lt_of_lt_of_le h1 hS.1)).trans (hS.2.1 a h1 h2)⟩
end ZTH
