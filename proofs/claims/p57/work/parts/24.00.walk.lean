/-! the law's own numbers beside the class; walking the law -/
/-- a place of a method of the law: from here it ends without a throw, with Q -/
def zH (L m : Nat) (c : zCfg) (Q : Option zV → zS → Prop) : Prop := ∃ v S', zg L m c (.inl v, S', 0) ∧ Q v S'
section ZH
variable {L m pc np : Nat} {lv : List (Option zV)} {st rest : List zV} {S S' : zS} {k : Nat} {Q : Option zV → zS → Prop}
theorem zH_pre {p' : Nat} {lv' : List (Option zV)} {st' : List zV} (h : zt L m pc lv st S (.inl (p', lv', st', S'))) (q : zH L m (p', lv', st', S') Q) : zH L m (pc, lv, st, S) Q := by
  obtain ⟨v, S2, h1, h2⟩ := q
  exact ⟨v, S2, h _ h1, h2⟩
theorem zH_ret {v : Option zV} (h : zt L m pc lv st S (.inr (.inl v, S', 0))) (q : Q v S') : zH L m (pc, lv, st, S) Q := ⟨v, S', h, q⟩
theorem zH_call {as : List zV} {r : zV} (hs : z_step L m (pc, lv, st, S) = some (.inr (.inl (k, as, (np, lv, rest, S))))) (hf : zf L k as S (.inl (some r), S', 0)) (q : zH L m (np, lv, r :: rest, S') Q) : zH L m (pc, lv, st, S) Q := by
  obtain ⟨v, S2, h1, h2⟩ := q
  exact ⟨v, S2, zr_cv (T := .inr (.inl v, S2, 0)) hs hf h1, h2⟩
theorem zH_calln {as : List zV} (hs : z_step L m (pc, lv, st, S) = some (.inr (.inl (k, as, (np, lv, rest, S))))) (hf : zf L k as S (.inl none, S', 0)) (q : zH L m (np, lv, rest, S') Q) : zH L m (pc, lv, st, S) Q := by
  obtain ⟨v, S2, h1, h2⟩ := q
  exact ⟨v, S2, zr_cn (T := .inr (.inl v, S2, 0)) hs hf h1, h2⟩
end ZH
def jQ (P : zS → Prop) (v : Option zV) (S : zS) : Prop := v = some (.inl 1) ∧ P S
theorem zH_f {L k : Nat} {as : List zV} {S : zS} {e : List (Option zV)} {P : zS → Prop} (he : z_ent k as = e) (h : zH L k (0, e, [], S) (jQ P)) : ∃ S', zf L k as S (.inl (some (.inl 1)), S', 0) ∧ P S' := by
  obtain ⟨v, S', h1, h2, h3⟩ := h
  subst h2 he
  exact ⟨S', h1, h3⟩
/-- the law's numbers are the class's, but for those of ks -/
def jCx (ks : List Nat) (S : zS) : Prop := (zmem ks 0 = false → S 13 0 = S 0 11) ∧ (zmem ks 1 = false → S 13 1 = S 5 0) ∧ (zmem ks 2 = false → S 13 2 = S 6 0) ∧ (zmem ks 3 = false → S 13 3 = S 10 0) ∧ (zmem ks 4 = false → S 13 4 = S 10 4) ∧ (zmem ks 5 = false → S 13 5 = S 11 0) ∧ (zmem ks 6 = false → S 13 6 = S 1 1) ∧ (zmem ks 7 = false → S 13 7 = S 1 2) ∧ (zmem ks 8 = false → S 13 8 = S 1 6)
def jE (S : zS) : Prop := ∀ f, f < 6 → S 81 f = (S 16 f) + 1
def jLaw (n : Nat) (S : zS) : Prop := jI n S ∧ jCx [] S ∧ jE S
theorem jLaw_u {n m : Nat} {S : zS} (hm : n ≤ m) (h : jLaw n S) : jLaw m S := ⟨jI_u hm h.1, h.2⟩
theorem jcx0 {S : zS} (h : jCx [] S) : S 13 0 = S 0 11 := by unfold jCx at h; exact h.1 rfl
theorem jcxk0 {ks : List Nat} {S : zS} (h : jCx ks S) (hk : zmem ks 0 = false := by rfl) : S 13 0 = S 0 11 := by unfold jCx at h; exact h.1 hk
theorem jcx1 {S : zS} (h : jCx [] S) : S 13 1 = S 5 0 := by unfold jCx at h; exact h.2.1 rfl
theorem jcxk1 {ks : List Nat} {S : zS} (h : jCx ks S) (hk : zmem ks 1 = false := by rfl) : S 13 1 = S 5 0 := by unfold jCx at h; exact h.2.1 hk
theorem jcx2 {S : zS} (h : jCx [] S) : S 13 2 = S 6 0 := by unfold jCx at h; exact h.2.2.1 rfl
theorem jcxk2 {ks : List Nat} {S : zS} (h : jCx ks S) (hk : zmem ks 2 = false := by rfl) : S 13 2 = S 6 0 := by unfold jCx at h; exact h.2.2.1 hk
theorem jcx3 {S : zS} (h : jCx [] S) : S 13 3 = S 10 0 := by unfold jCx at h; exact h.2.2.2.1 rfl
theorem jcxk3 {ks : List Nat} {S : zS} (h : jCx ks S) (hk : zmem ks 3 = false := by rfl) : S 13 3 = S 10 0 := by unfold jCx at h; exact h.2.2.2.1 hk
theorem jcx4 {S : zS} (h : jCx [] S) : S 13 4 = S 10 4 := by unfold jCx at h; exact h.2.2.2.2.1 rfl
theorem jcxk4 {ks : List Nat} {S : zS} (h : jCx ks S) (hk : zmem ks 4 = false := by rfl) : S 13 4 = S 10 4 := by unfold jCx at h; exact h.2.2.2.2.1 hk
theorem jcx5 {S : zS} (h : jCx [] S) : S 13 5 = S 11 0 := by unfold jCx at h; exact h.2.2.2.2.2.1 rfl
theorem jcxk5 {ks : List Nat} {S : zS} (h : jCx ks S) (hk : zmem ks 5 = false := by rfl) : S 13 5 = S 11 0 := by unfold jCx at h; exact h.2.2.2.2.2.1 hk
theorem jcx6 {S : zS} (h : jCx [] S) : S 13 6 = S 1 1 := by unfold jCx at h; exact h.2.2.2.2.2.2.1 rfl
theorem jcxk6 {ks : List Nat} {S : zS} (h : jCx ks S) (hk : zmem ks 6 = false := by rfl) : S 13 6 = S 1 1 := by unfold jCx at h; exact h.2.2.2.2.2.2.1 hk
theorem jcx7 {S : zS} (h : jCx [] S) : S 13 7 = S 1 2 := by unfold jCx at h; exact h.2.2.2.2.2.2.2.1 rfl
theorem jcxk7 {ks : List Nat} {S : zS} (h : jCx ks S) (hk : zmem ks 7 = false := by rfl) : S 13 7 = S 1 2 := by unfold jCx at h; exact h.2.2.2.2.2.2.2.1 hk
theorem jcx8 {S : zS} (h : jCx [] S) : S 13 8 = S 1 6 := by unfold jCx at h; exact h.2.2.2.2.2.2.2.2 rfl
theorem jcxk8 {ks : List Nat} {S : zS} (h : jCx ks S) (hk : zmem ks 8 = false := by rfl) : S 13 8 = S 1 6 := by unfold jCx at h; exact h.2.2.2.2.2.2.2.2 hk
def jCo_o (l fl ks : List Nat) : Bool := ((zmem fl 13000 == false) && (zmem fl 13001 == false) && (zmem fl 13002 == false) && (zmem fl 13003 == false) && (zmem fl 13004 == false) && (zmem fl 13005 == false) && (zmem fl 13006 == false) && (zmem fl 13007 == false) && (zmem fl 13008 == false)) && ((zmem ks 0 || (zmem fl 11 == false)) && (zmem ks 1 || (zmem fl 5000 == false)) && (zmem ks 2 || (zmem fl 6000 == false)) && (zmem ks 3 || (zmem fl 10000 == false)) && (zmem ks 4 || (zmem fl 10004 == false)) && (zmem ks 5 || (zmem fl 11000 == false)) && (zmem ks 6 || (zmem fl 1001 == false)) && (zmem ks 7 || (zmem fl 1002 == false)) && (zmem ks 8 || (zmem fl 1006 == false)))
theorem jCx_k {l fl ks : List Nat} {S S' : zS} (hd : jCo_o l fl ks = true) (hp : zkp l fl S S') (h : jCx [] S) : jCx ks S' := by
  unfold jCo_o at hd
  simp only [Bool.and_eq_true, Bool.or_eq_true, beq_iff_eq] at hd
  obtain ⟨⟨⟨⟨⟨⟨⟨⟨⟨a0, a1⟩, a2⟩, a3⟩, a4⟩, a5⟩, a6⟩, a7⟩, a8⟩, ⟨⟨⟨⟨⟨⟨⟨b0, b1⟩, b2⟩, b3⟩, b4⟩, b5⟩, b6⟩, b7⟩, b8⟩ := hd
  unfold jCx
  refine ⟨?_, ?_, ?_, ?_, ?_, ?_, ?_, ?_, ?_⟩
  · intro hk; rw [hp.2 13 0 rfl a0, hp.2 0 11 rfl (b0.resolve_left (by rw [hk]; decide))]; exact jcx0 h
  · intro hk; rw [hp.2 13 1 rfl a1, hp.2 5 0 rfl (b1.resolve_left (by rw [hk]; decide))]; exact jcx1 h
  · intro hk; rw [hp.2 13 2 rfl a2, hp.2 6 0 rfl (b2.resolve_left (by rw [hk]; decide))]; exact jcx2 h
  · intro hk; rw [hp.2 13 3 rfl a3, hp.2 10 0 rfl (b3.resolve_left (by rw [hk]; decide))]; exact jcx3 h
  · intro hk; rw [hp.2 13 4 rfl a4, hp.2 10 4 rfl (b4.resolve_left (by rw [hk]; decide))]; exact jcx4 h
  · intro hk; rw [hp.2 13 5 rfl a5, hp.2 11 0 rfl (b5.resolve_left (by rw [hk]; decide))]; exact jcx5 h
  · intro hk; rw [hp.2 13 6 rfl a6, hp.2 1 1 rfl (b6.resolve_left (by rw [hk]; decide))]; exact jcx6 h
  · intro hk; rw [hp.2 13 7 rfl a7, hp.2 1 2 rfl (b7.resolve_left (by rw [hk]; decide))]; exact jcx7 h
  · intro hk; rw [hp.2 13 8 rfl a8, hp.2 1 6 rfl (b8.resolve_left (by rw [hk]; decide))]; exact jcx8 h
theorem jCx_kk {l fl ks ks' : List Nat} {S S' : zS} (hs : zsub ks ks' = true) (hd : jCo_o l fl ks' = true) (hp : zkp l fl S S') (h : jCx ks S) : jCx ks' S' := by
  unfold jCo_o at hd
  simp only [Bool.and_eq_true, Bool.or_eq_true, beq_iff_eq] at hd
  obtain ⟨⟨⟨⟨⟨⟨⟨⟨⟨a0, a1⟩, a2⟩, a3⟩, a4⟩, a5⟩, a6⟩, a7⟩, a8⟩, ⟨⟨⟨⟨⟨⟨⟨b0, b1⟩, b2⟩, b3⟩, b4⟩, b5⟩, b6⟩, b7⟩, b8⟩ := hd
  unfold jCx
  refine ⟨?_, ?_, ?_, ?_, ?_, ?_, ?_, ?_, ?_⟩
  · intro hk; rw [hp.2 13 0 rfl a0, hp.2 0 11 rfl (b0.resolve_left (by rw [hk]; decide))]; exact jcxk0 h (zsub_mem hs hk)
  · intro hk; rw [hp.2 13 1 rfl a1, hp.2 5 0 rfl (b1.resolve_left (by rw [hk]; decide))]; exact jcxk1 h (zsub_mem hs hk)
  · intro hk; rw [hp.2 13 2 rfl a2, hp.2 6 0 rfl (b2.resolve_left (by rw [hk]; decide))]; exact jcxk2 h (zsub_mem hs hk)
  · intro hk; rw [hp.2 13 3 rfl a3, hp.2 10 0 rfl (b3.resolve_left (by rw [hk]; decide))]; exact jcxk3 h (zsub_mem hs hk)
  · intro hk; rw [hp.2 13 4 rfl a4, hp.2 10 4 rfl (b4.resolve_left (by rw [hk]; decide))]; exact jcxk4 h (zsub_mem hs hk)
  · intro hk; rw [hp.2 13 5 rfl a5, hp.2 11 0 rfl (b5.resolve_left (by rw [hk]; decide))]; exact jcxk5 h (zsub_mem hs hk)
  · intro hk; rw [hp.2 13 6 rfl a6, hp.2 1 1 rfl (b6.resolve_left (by rw [hk]; decide))]; exact jcxk6 h (zsub_mem hs hk)
  · intro hk; rw [hp.2 13 7 rfl a7, hp.2 1 2 rfl (b7.resolve_left (by rw [hk]; decide))]; exact jcxk7 h (zsub_mem hs hk)
  · intro hk; rw [hp.2 13 8 rfl a8, hp.2 1 6 rfl (b8.resolve_left (by rw [hk]; decide))]; exact jcxk8 h (zsub_mem hs hk)
theorem jE_k {l fl : List Nat} {S S' : zS} (h1 : zmem l 81 = false) (h2 : zmem l 16 = false) (hp : zkp l fl S S') (h : jE S) : jE S' := by
  unfold jE at *
  rw [hp.1 81 h1, hp.1 16 h2]; exact h
/-- one of the law's own numbers is written -/
theorem jI_13 {n : Nat} {S : zS} (h : jI n S) (i : Nat) (v : Int32) (hl : Nat.ble i 8 = true) : jI n (z_up S 13 i v) := by
  have e : ∀ a, a ≠ 13 → z_up S 13 i v a = S a := fun a ha => z_up_ne S 13 i v a ha
  unfold jI
  refine ⟨jSea_c (congrFun (e 1 (by decide)) 6) (congrFun (e 1 (by decide)) 1) (congrFun (e 1 (by decide)) 2) (congrFun (e 1 (by decide)) 0) (congrFun (e 1 (by decide)) 5) (e 14 (by decide)) (e 15 (by decide)) (jI_Sea h), jKey_c (congrFun (e 0 (by decide)) 11) (congrFun (e 2 (by decide)) 0) (congrFun (e 2 (by decide)) 3) (jI_Key h), jEng_c (e 16 (by decide)) (e 17 (by decide)) (e 18 (by decide)) (jI_Eng h), jPpl_c (e 24 (by decide)) (e 26 (by decide)) (e 27 (by decide)) (jI_Ppl h), jTok_c (congrFun (e 5 (by decide)) 0) (e 31 (by decide)) (e 32 (by decide)) (e 36 (by decide)) (e 37 (by decide)) (e 39 (by decide)) (e 40 (by decide)) (jI_Tok h), jTim_c (congrFun (e 0 (by decide)) 11) (congrFun (e 5 (by decide)) 0) (e 40 (by decide)) (e 34 (by decide)) (e 31 (by decide)) (e 35 (by decide)) (jI_Tim h), jUse_c (congrFun (e 5 (by decide)) 0) (e 40 (by decide)) (e 37 (by decide)) (jI_Use h), jLea_c (congrFun (e 6 (by decide)) 0) (e 41 (by decide)) (e 43 (by decide)) (e 46 (by decide)) (e 48 (by decide)) (jI_Lea h), jEnd_c (congrFun (e 0 (by decide)) 11) (congrFun (e 6 (by decide)) 0) (e 44 (by decide)) (e 45 (by decide)) (e 46 (by decide)) (jI_End h), jLT_c (congrFun (e 6 (by decide)) 0) (congrFun (e 5 (by decide)) 0) (e 40 (by decide)) (e 41 (by decide)) (e 46 (by decide)) (jI_LT h), jCnt_c (congrFun (e 6 (by decide)) 0) (e 43 (by decide)) (e 46 (by decide)) (e 49 (by decide)) (e 50 (by decide)) (jI_Cnt h), jSto_c (e 51 (by decide)) (e 52 (by decide)) (e 53 (by decide)) (e 54 (by decide)) (jI_Sto h), jFar_c (congrFun (e 8 (by decide)) 5) (congrFun (e 8 (by decide)) 6) (e 51 (by decide)) (e 55 (by decide)) (e 58 (by decide)) (e 59 (by decide)) (jI_Far h), jWra_c (congrFun (e 10 (by decide)) 0) (e 63 (by decide)) (e 65 (by decide)) (jI_Wra h), jCas_c (congrFun (e 10 (by decide)) 4) (congrFun (e 5 (by decide)) 0) (e 66 (by decide)) (e 67 (by decide)) (e 70 (by decide)) (e 71 (by decide)) (jI_Cas h), jCer_c (congrFun (e 11 (by decide)) 0) (e 72 (by decide)) (e 74 (by decide)) (e 75 (by decide)) (e 76 (by decide)) (jI_Cer h), jSin_c (e 77 (by decide)) (e 78 (by decide)) (e 79 (by decide)) (e 80 (by decide)) (jI_Sin h)⟩
theorem jE_13 {S : zS} (h : jE S) (i : Nat) (v : Int32) : jE (z_up S 13 i v) := by
  unfold jE at *
  rw [z_up_ne S 13 i v 81 (by decide), z_up_ne S 13 i v 16 (by decide)]; exact h
/-- .. and is the class's again -/
theorem jCx_up {ks : List Nat} {S : zS} (i : Nat) (v : Int32) (h : jCx ks S) (hv : (i = 0 → v = S 0 11) ∧ (i = 1 → v = S 5 0) ∧ (i = 2 → v = S 6 0) ∧ (i = 3 → v = S 10 0) ∧ (i = 4 → v = S 10 4) ∧ (i = 5 → v = S 11 0) ∧ (i = 6 → v = S 1 1) ∧ (i = 7 → v = S 1 2) ∧ (i = 8 → v = S 1 6)) (ks' : List Nat) (hs : ∀ j, zmem ks' j = false → j = i ∨ zmem ks j = false) : jCx ks' (z_up S 13 i v) := by
  have e : ∀ a, a ≠ 13 → z_up S 13 i v a = S a := fun a ha => z_up_ne S 13 i v a ha
  obtain ⟨v0, v1, v2, v3, v4, v5, v6, v7, v8⟩ := hv
  unfold jCx
  refine ⟨?_, ?_, ?_, ?_, ?_, ?_, ?_, ?_, ?_⟩
  · intro hk
    rw [zup2, if_pos rfl, congrFun (e 0 (by decide)) 11]
    by_cases hi : 0 = i
    · rw [if_pos hi]; exact v0 hi.symm
    · rw [if_neg hi]; exact jcxk0 h ((hs 0 hk).resolve_left hi)
  · intro hk
    rw [zup2, if_pos rfl, congrFun (e 5 (by decide)) 0]
    by_cases hi : 1 = i
    · rw [if_pos hi]; exact v1 hi.symm
    · rw [if_neg hi]; exact jcxk1 h ((hs 1 hk).resolve_left hi)
  · intro hk
    rw [zup2, if_pos rfl, congrFun (e 6 (by decide)) 0]
    by_cases hi : 2 = i
    · rw [if_pos hi]; exact v2 hi.symm
    · rw [if_neg hi]; exact jcxk2 h ((hs 2 hk).resolve_left hi)
  · intro hk
    rw [zup2, if_pos rfl, congrFun (e 10 (by decide)) 0]
    by_cases hi : 3 = i
    · rw [if_pos hi]; exact v3 hi.symm
    · rw [if_neg hi]; exact jcxk3 h ((hs 3 hk).resolve_left hi)
  · intro hk
    rw [zup2, if_pos rfl, congrFun (e 10 (by decide)) 4]
    by_cases hi : 4 = i
    · rw [if_pos hi]; exact v4 hi.symm
    · rw [if_neg hi]; exact jcxk4 h ((hs 4 hk).resolve_left hi)
  · intro hk
    rw [zup2, if_pos rfl, congrFun (e 11 (by decide)) 0]
    by_cases hi : 5 = i
    · rw [if_pos hi]; exact v5 hi.symm
    · rw [if_neg hi]; exact jcxk5 h ((hs 5 hk).resolve_left hi)
  · intro hk
    rw [zup2, if_pos rfl, congrFun (e 1 (by decide)) 1]
    by_cases hi : 6 = i
    · rw [if_pos hi]; exact v6 hi.symm
    · rw [if_neg hi]; exact jcxk6 h ((hs 6 hk).resolve_left hi)
  · intro hk
    rw [zup2, if_pos rfl, congrFun (e 1 (by decide)) 2]
    by_cases hi : 7 = i
    · rw [if_pos hi]; exact v7 hi.symm
    · rw [if_neg hi]; exact jcxk7 h ((hs 7 hk).resolve_left hi)
  · intro hk
    rw [zup2, if_pos rfl, congrFun (e 1 (by decide)) 6]
    by_cases hi : 8 = i
    · rw [if_pos hi]; exact v8 hi.symm
    · rw [if_neg hi]; exact jcxk8 h ((hs 8 hk).resolve_left hi)
theorem jCx_up0 {ks : List Nat} {S : zS} {v : Int32} (h : jCx ks S) (hv : v = S 0 11) (ks' : List Nat) (hs : ∀ j, zmem ks' j = false → j = 0 ∨ zmem ks j = false) : jCx ks' (z_up S 13 0 v) := jCx_up 0 v h ⟨fun _ => hv, fun e => absurd e (by decide), fun e => absurd e (by decide), fun e => absurd e (by decide), fun e => absurd e (by decide), fun e => absurd e (by decide), fun e => absurd e (by decide), fun e => absurd e (by decide), fun e => absurd e (by decide)⟩ ks' hs
theorem jCx_up1 {ks : List Nat} {S : zS} {v : Int32} (h : jCx ks S) (hv : v = S 5 0) (ks' : List Nat) (hs : ∀ j, zmem ks' j = false → j = 1 ∨ zmem ks j = false) : jCx ks' (z_up S 13 1 v) := jCx_up 1 v h ⟨fun e => absurd e (by decide), fun _ => hv, fun e => absurd e (by decide), fun e => absurd e (by decide), fun e => absurd e (by decide), fun e => absurd e (by decide), fun e => absurd e (by decide), fun e => absurd e (by decide), fun e => absurd e (by decide)⟩ ks' hs
theorem jCx_up2 {ks : List Nat} {S : zS} {v : Int32} (h : jCx ks S) (hv : v = S 6 0) (ks' : List Nat) (hs : ∀ j, zmem ks' j = false → j = 2 ∨ zmem ks j = false) : jCx ks' (z_up S 13 2 v) := jCx_up 2 v h ⟨fun e => absurd e (by decide), fun e => absurd e (by decide), fun _ => hv, fun e => absurd e (by decide), fun e => absurd e (by decide), fun e => absurd e (by decide), fun e => absurd e (by decide), fun e => absurd e (by decide), fun e => absurd e (by decide)⟩ ks' hs
theorem jCx_up3 {ks : List Nat} {S : zS} {v : Int32} (h : jCx ks S) (hv : v = S 10 0) (ks' : List Nat) (hs : ∀ j, zmem ks' j = false → j = 3 ∨ zmem ks j = false) : jCx ks' (z_up S 13 3 v) := jCx_up 3 v h ⟨fun e => absurd e (by decide), fun e => absurd e (by decide), fun e => absurd e (by decide), fun _ => hv, fun e => absurd e (by decide), fun e => absurd e (by decide), fun e => absurd e (by decide), fun e => absurd e (by decide), fun e => absurd e (by decide)⟩ ks' hs
theorem jCx_up4 {ks : List Nat} {S : zS} {v : Int32} (h : jCx ks S) (hv : v = S 10 4) (ks' : List Nat) (hs : ∀ j, zmem ks' j = false → j = 4 ∨ zmem ks j = false) : jCx ks' (z_up S 13 4 v) := jCx_up 4 v h ⟨fun e => absurd e (by decide), fun e => absurd e (by decide), fun e => absurd e (by decide), fun e => absurd e (by decide), fun _ => hv, fun e => absurd e (by decide), fun e => absurd e (by decide), fun e => absurd e (by decide), fun e => absurd e (by decide)⟩ ks' hs
theorem jCx_up5 {ks : List Nat} {S : zS} {v : Int32} (h : jCx ks S) (hv : v = S 11 0) (ks' : List Nat) (hs : ∀ j, zmem ks' j = false → j = 5 ∨ zmem ks j = false) : jCx ks' (z_up S 13 5 v) := jCx_up 5 v h ⟨fun e => absurd e (by decide), fun e => absurd e (by decide), fun e => absurd e (by decide), fun e => absurd e (by decide), fun e => absurd e (by decide), fun _ => hv, fun e => absurd e (by decide), fun e => absurd e (by decide), fun e => absurd e (by decide)⟩ ks' hs
theorem jCx_up6 {ks : List Nat} {S : zS} {v : Int32} (h : jCx ks S) (hv : v = S 1 1) (ks' : List Nat) (hs : ∀ j, zmem ks' j = false → j = 6 ∨ zmem ks j = false) : jCx ks' (z_up S 13 6 v) := jCx_up 6 v h ⟨fun e => absurd e (by decide), fun e => absurd e (by decide), fun e => absurd e (by decide), fun e => absurd e (by decide), fun e => absurd e (by decide), fun e => absurd e (by decide), fun _ => hv, fun e => absurd e (by decide), fun e => absurd e (by decide)⟩ ks' hs
theorem jCx_up7 {ks : List Nat} {S : zS} {v : Int32} (h : jCx ks S) (hv : v = S 1 2) (ks' : List Nat) (hs : ∀ j, zmem ks' j = false → j = 7 ∨ zmem ks j = false) : jCx ks' (z_up S 13 7 v) := jCx_up 7 v h ⟨fun e => absurd e (by decide), fun e => absurd e (by decide), fun e => absurd e (by decide), fun e => absurd e (by decide), fun e => absurd e (by decide), fun e => absurd e (by decide), fun e => absurd e (by decide), fun _ => hv, fun e => absurd e (by decide)⟩ ks' hs
theorem jCx_up8 {ks : List Nat} {S : zS} {v : Int32} (h : jCx ks S) (hv : v = S 1 6) (ks' : List Nat) (hs : ∀ j, zmem ks' j = false → j = 8 ∨ zmem ks j = false) : jCx ks' (z_up S 13 8 v) := jCx_up 8 v h ⟨fun e => absurd e (by decide), fun e => absurd e (by decide), fun e => absurd e (by decide), fun e => absurd e (by decide), fun e => absurd e (by decide), fun e => absurd e (by decide), fun e => absurd e (by decide), fun e => absurd e (by decide), fun _ => hv⟩ ks' hs
theorem jmem1 {a : Nat} : ∀ j, zmem [] j = false → j = a ∨ zmem [a] j = false := fun j _ => by
  by_cases h : j = a
  · exact Or.inl h
  · right
    show (Nat.beq a j || false) = false
    rw [Bool.or_false]
    exact Bool.eq_false_iff.mpr (fun e => h (Nat.eq_of_beq_eq_true e).symm)
theorem jmem2 {a b : Nat} : ∀ j, zmem [b] j = false → j = a ∨ zmem [a, b] j = false := fun j hj => by
  by_cases h : j = a
  · exact Or.inl h
  · right
    have h1 : Nat.beq a j = false := Bool.eq_false_iff.mpr (fun e => h (Nat.eq_of_beq_eq_true e).symm)
    show (Nat.beq a j || zmem [b] j) = false
    rw [h1, hj]; rfl
