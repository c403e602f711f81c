/-! the law's steps: places with a count of throws -/
def zs (L m pc : Nat) (lv : List (Option zV)) (st : List zV) (S : zS) (T : zT) (e : Nat) : Prop := match T with
  | .inl c' => ∀ o, zg L m c' o → zg L m (pc, lv, st, S) (o.1, o.2.1, e + o.2.2)
  | .inr o => zg L m (pc, lv, st, S) (o.1, o.2.1, e + o.2.2)
def zq (L m pc : Nat) (lv : List (Option zV)) (st : List zV) (S : zS) (T : zT) : Prop := ∃ e, e ≤ 1 ∧ zs L m pc lv st S T e
section ZQ
variable {L m pc np : Nat} {lv : List (Option zV)} {st rest : List zV} {S S' : zS} {T T1 T2 : zT} {k : Nat}
theorem zq_of (h : zt L m pc lv st S T) : zq L m pc lv st S T := by
  refine ⟨0, by decide, ?_⟩
  unfold zs
  rcases T with c | o
  · intro o ho; rw [Nat.zero_add]; exact h o ho
  · dsimp only; rw [Nat.zero_add]; exact h
theorem zq_pre {p' : Nat} {lv' : List (Option zV)} {st' : List zV} (h1 : zt L m pc lv st S (.inl (p', lv', st', S'))) (h2 : zq L m p' lv' st' S' T) : zq L m pc lv st S T := by
  obtain ⟨e, he, h⟩ := h2
  refine ⟨e, he, ?_⟩
  unfold zs at h ⊢
  rcases T with c | o
  · intro o ho; exact h1 _ (h o ho)
  · exact h1 _ h
theorem zg_callE {c2 : zCfg} {as : List zV} {o : zRes} {r : Option zV} {e : Nat} (hs : z_step L m (pc, lv, st, S) = some (.inr (.inl (k, as, c2)))) (hS : c2.2.2.2 = S) (hf : zf L k as S (.inl r, S', e)) (h : zg L m (c2.1, c2.2.1, r.toList ++ c2.2.2.1, S') o) : zg L m (pc, lv, st, S) (o.1, o.2.1, e + o.2.2) := by
  obtain ⟨n1, h1⟩ := hf
  obtain ⟨n2, h2⟩ := h
  refine ⟨n1 + n2 + 1, ?_⟩
  rw [z_run_succ, hs]
  show z_aft m (z_run L (n1 + n2)) c2 (z_run L (n1 + n2) k (0, z_ent k as, [], c2.2.2.2)) = _
  rw [hS, z_run_mono h1 n2]
  unfold z_aft
  dsimp only
  rw [show n1 + n2 = n2 + n1 from Nat.add_comm _ _, z_run_mono h2 n1]
theorem zq_call {as : List zV} {r : zV} {e : Nat} (hs : z_step L m (pc, lv, st, S) = some (.inr (.inl (k, as, (np, lv, rest, S))))) (hf : zf L k as S (.inl (some r), S', e)) (he : e ≤ 1) (h : zt L m np lv (r :: rest) S' T) : zq L m pc lv st S T := by
  refine ⟨e, he, ?_⟩
  unfold zs
  rcases T with c | o
  · intro o ho; exact zg_callE hs rfl hf (h o ho)
  · exact zg_callE hs rfl hf h
theorem zq_callO {P : Prop} [Decidable P] {as : List zV} {o1 o2 : zRes} (hf : zf L k as S (if P then o1 else o2)) (h1 : P → zf L k as S o1 → zq L m pc lv st S' T1) (h2 : ¬ P → zf L k as S o2 → zq L m pc lv st S' T2) : zq L m pc lv st S' (if P then T1 else T2) := by
  by_cases h : P
  · rw [if_pos h] at hf ⊢; exact h1 h hf
  · rw [if_neg h] at hf ⊢; exact h2 h hf
end ZQ
theorem zl_l {P : Prop} [Decidable P] {x y z : Int32} (h : (if P then x else y) = z) : (if P then (.inr (.inl x) : zV) else .inr (.inl y)) = .inr (.inl z) := by subst h; split <;> rfl
theorem zs_35_10 {L m pc np k b : Nat} {lv : List (Option zV)} {st : List zV} {S : zS} {a0 a1 a2 a3 a4 a5 a6 a7 a8 a9 : zV} (hi : zi m pc np 35 k b) (hn : z_na k = 10) (hc : (Nat.ble (z_cats st) 8 && ([a0, a1, a2, a3, a4, a5, a6, a7, a8, a9] : List zV).all (fun v => z_cat v == 1)) = true) : z_step L m (pc, lv, a9 :: a8 :: a7 :: a6 :: a5 :: a4 :: a3 :: a2 :: a1 :: a0 :: st, S) = some (.inr (.inl (k, [a0, a1, a2, a3, a4, a5, a6, a7, a8, a9], (np, lv, st, S)))) := by
  obtain ⟨rfl, h1⟩ := zi_step hi
  rw [Bool.and_eq_true] at hc
  rw [h1]
  simp only [z_ex, z_call, hn]
  rw [if_pos]
  · rfl
  · refine ⟨Nat.le_of_ble_eq_true hc.1, by simp, ?_⟩
    simpa [Bool.and_comm, Bool.and_assoc, Bool.and_left_comm, and_comm, and_left_comm, and_assoc] using hc.2
