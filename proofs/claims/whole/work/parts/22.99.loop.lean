/-! the law's loop -/
theorem zsel_all {C : Nat → Prop} {x : Int32} {d : Nat} (hd : C d) : ∀ {ps : List (Int × Nat)}, (∀ p ∈ ps, C p.2) → ∃ t, C t ∧ ∀ f : Nat → Option zO, z_sel ps d x f = f t
  | [], _ => ⟨d, hd, fun _ => rfl⟩
  | p :: r, h => by
    by_cases c : x.toInt = p.1
    · exact ⟨p.2, h p List.mem_cons_self, fun f => by unfold z_sel; rw [if_pos c]⟩
    · obtain ⟨t, h1, h2⟩ := zsel_all (x := x) hd (ps := r) (fun p hp => h p (List.mem_cons_of_mem _ hp))
      exact ⟨t, h1, fun f => by unfold z_sel; rw [if_neg c]; exact h2 f⟩
theorem zr_36t {L m pc np a t : Nat} {b : Int} {lv : List (Option zV)} {st : List zV} {S : zS} {x : Int32} {T : zT} (hi : zi m pc np 36 a b) (ht : ∀ f : Nat → Option zO, z_sel (z_sw.getD a (0, [])).2 (z_sw.getD a (0, [])).1 x f = f t) (h : zt L m t lv st S T) : zt L m pc lv (.inl x :: st) S T := by
  obtain ⟨rfl, h1⟩ := zi_step hi
  have e2 : z_step L m (pc, lv, .inl x :: st, S) = some (.inl (t, lv, st, S)) := by rw [h1]; exact ht _
  exact zt_next e2 h
theorem zlone {L n : Nat} {x4 : Int32} (u5 u6 : Option zV) {S : zS} (x : Int32) (hn : n < 512) (h : zR n S S) (hx1 : zx L (x4 + 1)) (hx2 : zx L (x4 + 2)) (hx3 : zx L (x4 + 3)) (hx4 : zx L (x4 + 4)) (hx5 : zx L (x4 + 5)) (hx6 : zx L (x4 + 6)) (hx7 : zx L (x4 + 7)) (hx8 : zx L (x4 + 8)) : ∃ t, zOne L n t x4 u5 u6 S ∧ ∀ f : Nat → Option zO, z_sel (z_sw.getD 1 (0, [])).2 (z_sw.getD 1 (0, [])).1 x f = f t := by
  rw [sw_law]
  refine zsel_all (C := fun t => zOne L n t x4 u5 u6 S) ?_ ?_
  · exact ⟨u5, u6, S, zq_of (zr_5_4 i372_2420 kc_9 (zr_17 i372_2421 zt_rfl)), zQ_R (zQ_up (zR_Q h)) (zR_Use h), rfl⟩
  · exact List.forall_mem_cons.mpr ⟨zyl0 u5 u6 hn h hx1 hx2 hx3 hx4 hx5 hx6 hx7 hx8, List.forall_mem_cons.mpr ⟨zyl1 u5 u6 hn h hx1 hx2 hx3 hx4 hx5 hx6 hx7 hx8, List.forall_mem_cons.mpr ⟨zyl2 u5 u6 hn h hx1 hx2 hx3 hx4 hx5 hx6 hx7 hx8, List.forall_mem_cons.mpr ⟨zyl3 u5 u6 hn h hx1 hx2 hx3 hx4 hx5 hx6 hx7 hx8, List.forall_mem_cons.mpr ⟨zyl4 u5 u6 hn h hx1 hx2 hx3 hx4 hx5 hx6 hx7 hx8, List.forall_mem_cons.mpr ⟨zyl5 u5 u6 hn h hx1 hx2 hx3 hx4 hx5 hx6 hx7 hx8, List.forall_mem_cons.mpr ⟨zyl6 u5 u6 hn h hx1 hx2 hx3 hx4 hx5 hx6 hx7 hx8, List.forall_mem_cons.mpr ⟨zyl7 u5 u6 hn h hx1 hx2 hx3 hx4 hx5 hx6 hx7 hx8, List.forall_mem_cons.mpr ⟨zyl8 u5 u6 hn h hx1 hx2 hx3 hx4 hx5 hx6 hx7 hx8, List.forall_mem_cons.mpr ⟨zyl9 u5 u6 hn h hx1 hx2 hx3 hx4 hx5 hx6 hx7 hx8, List.forall_mem_cons.mpr ⟨zyl10 u5 u6 hn h hx1 hx2 hx3 hx4 hx5 hx6 hx7 hx8, List.forall_mem_cons.mpr ⟨zyl11 u5 u6 hn h hx1 hx2 hx3 hx4 hx5 hx6 hx7 hx8, List.forall_mem_cons.mpr ⟨zyl12 u5 u6 hn h hx1 hx2 hx3 hx4 hx5 hx6 hx7 hx8, List.forall_mem_cons.mpr ⟨zyl13 u5 u6 hn h hx1 hx2 hx3 hx4 hx5 hx6 hx7 hx8, List.forall_mem_cons.mpr ⟨zyl14 u5 u6 hn h hx1 hx2 hx3 hx4 hx5 hx6 hx7 hx8, List.forall_mem_cons.mpr ⟨zyl15 u5 u6 hn h hx1 hx2 hx3 hx4 hx5 hx6 hx7 hx8, List.forall_mem_cons.mpr ⟨zyl16 u5 u6 hn h hx1 hx2 hx3 hx4 hx5 hx6 hx7 hx8, List.forall_mem_cons.mpr ⟨zyl17 u5 u6 hn h hx1 hx2 hx3 hx4 hx5 hx6 hx7 hx8, List.forall_mem_cons.mpr ⟨zyl18 u5 u6 hn h hx1 hx2 hx3 hx4 hx5 hx6 hx7 hx8, List.forall_mem_cons.mpr ⟨zyl19 u5 u6 hn h hx1 hx2 hx3 hx4 hx5 hx6 hx7 hx8, List.forall_mem_cons.mpr ⟨zyl20 u5 u6 hn h hx1 hx2 hx3 hx4 hx5 hx6 hx7 hx8, List.forall_mem_cons.mpr ⟨zyl21 u5 u6 hn h hx1 hx2 hx3 hx4 hx5 hx6 hx7 hx8, List.forall_mem_cons.mpr ⟨zyl22 u5 u6 hn h hx1 hx2 hx3 hx4 hx5 hx6 hx7 hx8, List.forall_mem_cons.mpr ⟨zyl23 u5 u6 hn h hx1 hx2 hx3 hx4 hx5 hx6 hx7 hx8, List.forall_mem_cons.mpr ⟨zyl24 u5 u6 hn h hx1 hx2 hx3 hx4 hx5 hx6 hx7 hx8, List.forall_mem_cons.mpr ⟨zyl25 u5 u6 hn h hx1 hx2 hx3 hx4 hx5 hx6 hx7 hx8, List.forall_mem_cons.mpr ⟨zyl26 u5 u6 hn h hx1 hx2 hx3 hx4 hx5 hx6 hx7 hx8, List.forall_mem_cons.mpr ⟨zyl27 u5 u6 hn h hx1 hx2 hx3 hx4 hx5 hx6 hx7 hx8, List.forall_mem_cons.mpr ⟨zyl28 u5 u6 hn h hx1 hx2 hx3 hx4 hx5 hx6 hx7 hx8, List.forall_mem_cons.mpr ⟨zyl29 u5 u6 hn h hx1 hx2 hx3 hx4 hx5 hx6 hx7 hx8, List.forall_mem_cons.mpr ⟨zyl30 u5 u6 hn h hx1 hx2 hx3 hx4 hx5 hx6 hx7 hx8, List.forall_mem_cons.mpr ⟨zyl31 u5 u6 hn h hx1 hx2 hx3 hx4 hx5 hx6 hx7 hx8, List.forall_mem_cons.mpr ⟨zyl32 u5 u6 hn h hx1 hx2 hx3 hx4 hx5 hx6 hx7 hx8, List.forall_mem_cons.mpr ⟨zyl33 u5 u6 hn h hx1 hx2 hx3 hx4 hx5 hx6 hx7 hx8, List.forall_mem_cons.mpr ⟨zyl34 u5 u6 hn h hx1 hx2 hx3 hx4 hx5 hx6 hx7 hx8, List.forall_mem_cons.mpr ⟨zyl35 u5 u6 hn h hx1 hx2 hx3 hx4 hx5 hx6 hx7 hx8, List.forall_mem_cons.mpr ⟨zyl36 u5 u6 hn h hx1 hx2 hx3 hx4 hx5 hx6 hx7 hx8, List.forall_mem_cons.mpr ⟨zyl37 u5 u6 hn h hx1 hx2 hx3 hx4 hx5 hx6 hx7 hx8, List.forall_mem_cons.mpr ⟨zyl38 u5 u6 hn h hx1 hx2 hx3 hx4 hx5 hx6 hx7 hx8, List.forall_mem_cons.mpr ⟨zyl39 u5 u6 hn h hx1 hx2 hx3 hx4 hx5 hx6 hx7 hx8, List.forall_mem_cons.mpr ⟨zyl40 u5 u6 hn h hx1 hx2 hx3 hx4 hx5 hx6 hx7 hx8, List.forall_mem_cons.mpr ⟨zyl41 u5 u6 hn h hx1 hx2 hx3 hx4 hx5 hx6 hx7 hx8, List.forall_mem_cons.mpr ⟨zyl42 u5 u6 hn h hx1 hx2 hx3 hx4 hx5 hx6 hx7 hx8, List.forall_mem_cons.mpr ⟨zyl43 u5 u6 hn h hx1 hx2 hx3 hx4 hx5 hx6 hx7 hx8, List.forall_mem_cons.mpr ⟨zyl44 u5 u6 hn h hx1 hx2 hx3 hx4 hx5 hx6 hx7 hx8, List.forall_mem_cons.mpr ⟨zyl45 u5 u6 hn h hx1 hx2 hx3 hx4 hx5 hx6 hx7 hx8, List.forall_mem_cons.mpr ⟨zyl46 u5 u6 hn h hx1 hx2 hx3 hx4 hx5 hx6 hx7 hx8, List.forall_mem_cons.mpr ⟨zyl47 u5 u6 hn h hx1 hx2 hx3 hx4 hx5 hx6 hx7 hx8, List.forall_mem_cons.mpr ⟨zyl48 u5 u6 hn h hx1 hx2 hx3 hx4 hx5 hx6 hx7 hx8, List.forall_mem_cons.mpr ⟨zyl49 u5 u6 hn h hx1 hx2 hx3 hx4 hx5 hx6 hx7 hx8, List.forall_mem_cons.mpr ⟨zyl50 u5 u6 hn h hx1 hx2 hx3 hx4 hx5 hx6 hx7 hx8, List.forall_mem_cons.mpr ⟨zyl51 u5 u6 hn h hx1 hx2 hx3 hx4 hx5 hx6 hx7 hx8, List.forall_mem_cons.mpr ⟨zyl52 u5 u6 hn h hx1 hx2 hx3 hx4 hx5 hx6 hx7 hx8, List.forall_mem_cons.mpr ⟨zyl53 u5 u6 hn h hx1 hx2 hx3 hx4 hx5 hx6 hx7 hx8, fun _ h => absurd h List.not_mem_nil⟩⟩⟩⟩⟩⟩⟩⟩⟩⟩⟩⟩⟩⟩⟩⟩⟩⟩⟩⟩⟩⟩⟩⟩⟩⟩⟩⟩⟩⟩⟩⟩⟩⟩⟩⟩⟩⟩⟩⟩⟩⟩⟩⟩⟩⟩⟩⟩⟩⟩⟩⟩⟩⟩
theorem i372_2422 : zi 372 2422 2423 0 0 1 := by decide +kernel
theorem i372_2423 : zi 372 2423 2424 26 0 0 := by decide +kernel
theorem zhead {L : Nat} {x4 : Int32} (u5 u6 : Option zV) {S : zS} (hx : ¬ (Int32.ofNat L - 9) < x4 → zx L x4) : zt L 372 13 (zlv x4 u5 u6) [] S (if (Int32.ofNat L - 9) < x4 then .inr (.inl (some (.inl 1)), S, 0) else .inl (24, zlv x4 u5 u6, [.inl (S 1000 x4.toNatClampNeg &&& 63)], S)) :=
  zr_1_4 i372_13 (zr_2_0 i372_14 (zr_12s i372_15 (zr_0 i372_16 kc_9 (zr_13_1 i372_17 (zr_19_4 i372_18 (fun _ => zr_0 i372_2422 kc_1 (zr_26 i372_2423 zo_1)) (fun h => zr_2_0 i372_19 (zr_1_4 i372_20 (zr_8v i372_21 (hx h) rfl (zr_0 i372_22 kc_63 (zr_13_5 i372_23 zt_rfl))))))))))
theorem zrange {L n : Nat} {x4 : Int32} (hL : L ≤ 4608) (h4 : x4.toInt = 9 * n) : ((Int32.ofNat L - 9).toInt = L - 9) ∧ (¬ (Int32.ofNat L - 9) < x4 → n < 512 ∧ zx L x4 ∧ zx L (x4 + 1) ∧ zx L (x4 + 2) ∧ zx L (x4 + 3) ∧ zx L (x4 + 4) ∧ zx L (x4 + 5) ∧ zx L (x4 + 6) ∧ zx L (x4 + 7) ∧ zx L (x4 + 8) ∧ (x4 + 9).toInt = 9 * (n + 1 : Nat)) := by
  have e0 : (Int32.ofNat L).toInt = L := zk_ti L (by omega)
  have e9 : (9 : Int32).toInt = 9 := rfl
  have e1 : (Int32.ofNat L - 9).toInt = L - 9 := by rw [zk_tsub (by omega) (by omega), e0, e9]
  refine ⟨e1, fun h => ?_⟩
  rw [zk_lt, e1] at h
  have ad : ∀ c : Int32, 0 ≤ c.toInt → c.toInt ≤ 9 → (x4 + c).toInt = x4.toInt + c.toInt := fun c h1 h2 => zk_tadd (by omega) (by omega)
  have xs : ∀ c : Int32, 0 ≤ c.toInt → c.toInt ≤ 8 → zx L (x4 + c) := fun c h1 h2 => by rw [zx_iff, ad c h1 (by omega)]; omega
  refine ⟨by omega, by rw [zx_iff]; omega, xs 1 (by decide) (by decide), xs 2 (by decide) (by decide), xs 3 (by decide) (by decide), xs 4 (by decide) (by decide), xs 5 (by decide) (by decide), xs 6 (by decide) (by decide), xs 7 (by decide) (by decide), xs 8 (by decide) (by decide), ?_⟩
  rw [ad 9 (by decide) (by decide), e9, h4]; omega
theorem zloop {L : Nat} (hL : L ≤ 4608) : ∀ (k n : Nat) (x4 : Int32) (u5 u6 : Option zV) (S : zS), x4.toInt = 9 * n → L < 9 * n + 9 * (k + 1) → zR n S S → ∃ o : zRes, zg L 372 (13, zlv x4 u5 u6, [], S) o ∧ o.1 = .inl (some (.inl 1)) ∧ o.2.2 ≤ k := by
  intro k
  induction k with
  | zero =>
    intro n x4 u5 u6 S h4 hk h
    obtain ⟨e1, r⟩ := zrange hL h4
    have hc : (Int32.ofNat L - 9) < x4 := by rw [zk_lt, e1]; omega
    have t := zhead (L := L) (x4 := x4) u5 u6 (S := S) (fun hh => absurd hc hh)
    rw [if_pos hc] at t
    exact ⟨_, t, rfl, Nat.le_refl _⟩
  | succ k ih =>
    intro n x4 u5 u6 S h4 hk h
    obtain ⟨e1, r⟩ := zrange hL h4
    have t := zhead (L := L) (x4 := x4) u5 u6 (S := S) (fun hh => (r hh).2.1)
    by_cases hc : (Int32.ofNat L - 9) < x4
    · rw [if_pos hc] at t
      exact ⟨_, t, rfl, Nat.zero_le _⟩
    · rw [if_neg hc] at t
      obtain ⟨hn, hx0, hx1, hx2, hx3, hx4, hx5, hx6, hx7, hx8, h9⟩ := r hc
      obtain ⟨p, ⟨v5, v6, S', hq, hR, _⟩, hp⟩ := zlone (L := L) u5 u6 (S 1000 x4.toNatClampNeg &&& 63) hn h hx1 hx2 hx3 hx4 hx5 hx6 hx7 hx8
      obtain ⟨o, ho, ho1, ho2⟩ := ih (n + 1) (x4 + 9) v5 v6 S' h9 (by omega) hR
      have q := zq_pre t (zq_pre (zr_36t i372_24 hp zt_rfl) hq)
      obtain ⟨e, he, hs⟩ := q
      exact ⟨_, hs o ho, ho1, by show e + o.2.2 ≤ k + 1; omega⟩
/-- the law answers true, with at most 512 exceptions made -/
theorem zlaw {L : Nat} (hL : L ≤ 4608) {S : zS} (h : zR 0 S S) : ∃ o : zRes, zg L 372 (13, zlv 0 none none, [], S) o ∧ o.1 = .inl (some (.inl 1)) ∧ o.2.2 ≤ 512 := zloop hL 512 0 0 none none S rfl (by omega) h
