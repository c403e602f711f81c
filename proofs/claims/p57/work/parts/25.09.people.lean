/-! the law: 25.09.people (wip/p57/gen) -/
theorem ml_336 : z_ml 336 = 13 := by decide +kernel
theorem en_336 : ∀ (v0 v1 v2 : zV), z_ent 336 [v0, v1, v2] = [some v0, some v1, some v2, none, none, none, none, none, none, none, none, none, none] := fun v0 v1 v2 => by unfold z_ent; rw [ml_336]; rfl
theorem i336_0 : zi 336 0 1 1 1 0 := by decide +kernel
theorem i336_1 : zi 336 1 2 0 0 8 := by decide +kernel
theorem i336_2 : zi 336 2 3 13 4 0 := by decide +kernel
theorem i336_3 : zi 336 3 4 3 3 0 := by decide +kernel
theorem i336_4 : zi 336 4 5 1 2 0 := by decide +kernel
theorem i336_5 : zi 336 5 6 0 0 4 := by decide +kernel
theorem i336_6 : zi 336 6 7 13 4 0 := by decide +kernel
theorem i336_7 : zi 336 7 8 3 4 0 := by decide +kernel
theorem i336_8 : zi 336 8 9 1 1 0 := by decide +kernel
theorem i336_9 : zi 336 9 10 0 0 8 := by decide +kernel
theorem i336_10 : zi 336 10 11 13 3 0 := by decide +kernel
theorem i336_11 : zi 336 11 12 0 0 4 := by decide +kernel
theorem i336_12 : zi 336 12 13 13 4 0 := by decide +kernel
theorem i336_13 : zi 336 13 14 36 2 0 := by decide +kernel
theorem sw_2 : z_sw.getD 2 (0, []) = (154, [(0, 14), (1, 90), (2, 125)]) := by decide +kernel

theorem zsel_all {C : Nat → Prop} {x : Int32} {d : Nat} (hd : C d) : ∀ {ps : List (Int × Nat)}, (∀ p ∈ ps, C p.2) → ∃ t, C t ∧ ∀ f : Nat → Option zO, z_sel ps d x f = f t
  | [], _ => ⟨d, hd, fun _ => rfl⟩
  | p :: r, h => by
    by_cases c : x.toInt = p.1
    · exact ⟨p.2, h p List.mem_cons_self, fun f => by unfold z_sel; rw [if_pos c]⟩
    · obtain ⟨t, h1, h2⟩ := zsel_all (x := x) hd (ps := r) (fun p hp => h p (List.mem_cons_of_mem _ hp))
      exact ⟨t, h1, fun f => by unfold z_sel; rw [if_neg c]; exact h2 f⟩
theorem zr_36t {L m pc np a t : Nat} {b : Int} {lv : List (Option zV)} {st : List zV} {S : zS} {x : Int32} {T : zT} (hi : zi m pc np 36 a b) (ht : ∀ f : Nat → Option zO, z_sel (z_sw.getD a (0, [])).2 (z_sw.getD a (0, [])).1 x f = f t) (h : zt L m t lv st S T) : zt L m pc lv (.inl x :: st) S T := by
  obtain ⟨rfl, h1⟩ := zi_step hi
  have e2 : z_step L m (pc, lv, .inl x :: st, S) = some (.inl (t, lv, st, S)) := by rw [h1]; exact ht _
  exact zt_next e2 h
theorem zH_sw {L m pc np a d : Nat} {ps : List (Int × Nat)} {b : Int} {lv : List (Option zV)} {st : List zV} {S : zS} {x : Int32} {Q : Option zV → zS → Prop} (hi : zi m pc np 36 a b) (hs : z_sw.getD a (0, []) = (d, ps)) (hd : zH L m (d, lv, st, S) Q) (h : ∀ p ∈ ps, zH L m (p.2, lv, st, S) Q) : zH L m (pc, lv, .inl x :: st, S) Q := by
  obtain ⟨t, h1, h2⟩ := zsel_all (C := fun t => zH L m (t, lv, st, S) Q) (x := x) hd h
  have e : z_sw.getD a (0, []) = (z_sw.getD a (0, [])) := rfl
  refine zH_pre (zr_36t hi (t := t) (fun f => ?_) zt_rfl) h1
  rw [hs]; exact h2 f

set_option maxRecDepth 100000 in
theorem q336 {L : Nat} (a b : Int32) {S : zS} {n : Nat} (hn : n < 480) (w : jLaw n S) (ha : 0 ≤ a.toInt) (hb : 0 ≤ b.toInt) : ∃ S', zf L 336 [.inr (.inr 0), .inl a, .inl b] S (.inl (some (.inl 1)), S', 0) ∧ jLaw (n + 6) S' := by
  refine zH_f (en_336 _ _ _) ?_
  have h8 := jrem (x := a) (y := 8) ha (by decide)
  rw [jk_8] at h8
  have h4 := jrem (x := b) (y := 4) hb (by decide)
  rw [jk_4] at h4
  refine zH_pre (zr_1_1 i336_0 (zr_0 i336_1 kc_8 (zr_13_4 i336_2 nz_8 (zr_3_3 i336_3 (zr_1_2 i336_4 (zr_0 i336_5 kc_4 (zr_13_4 i336_6 nz_4 (zr_3_4 i336_7 (zr_1_1 i336_8 (zr_0 i336_9 kc_8 (zr_13_3 i336_10 nz_8 (zr_0 i336_11 kc_4 (zr_13_4 i336_12 nz_4 (zt_rfl)))))))))))))) ?_
  exact zH_sw i336_13 sw_2 (q336c3 a b _ _ hn w ha hb h8 h4) (List.forall_mem_cons.mpr ⟨q336c0 a b _ _ hn w ha hb h8 h4, List.forall_mem_cons.mpr ⟨q336c1 a b _ _ hn w ha hb h8 h4, List.forall_mem_cons.mpr ⟨q336c2 a b _ _ hn w ha hb h8 h4, fun _ hp => nomatch hp⟩⟩⟩)
