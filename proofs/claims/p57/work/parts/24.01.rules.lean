/-! locals 13 to 16 (wip/p57/gen/gen2401.py) -/
theorem zr_1_13 {L m pc np : Nat} {b : Int} {st : List zV} {S : zS} {T : zT} {x : Int32} {o0 o1 o2 o3 o4 o5 o6 o7 o8 o9 o10 o11 o12 : Option zV} {r : List (Option zV)} (hi : zi m pc np 1 13 b) (h : zt L m np (o0 :: o1 :: o2 :: o3 :: o4 :: o5 :: o6 :: o7 :: o8 :: o9 :: o10 :: o11 :: o12 :: some (.inl x) :: r) (.inl x :: st) S T) : zt L m pc (o0 :: o1 :: o2 :: o3 :: o4 :: o5 :: o6 :: o7 :: o8 :: o9 :: o10 :: o11 :: o12 :: some (.inl x) :: r) st S T := by
  obtain ⟨rfl, h1⟩ := zi_step hi
  exact zt_next ((h1 L _ _ _).trans rfl) h
theorem zr_3_13 {L m pc np : Nat} {b : Int} {st : List zV} {S : zS} {T : zT} {x : Int32} {o0 o1 o2 o3 o4 o5 o6 o7 o8 o9 o10 o11 o12 : Option zV} {u : Option zV} {r : List (Option zV)} (hi : zi m pc np 3 13 b) (h : zt L m np (o0 :: o1 :: o2 :: o3 :: o4 :: o5 :: o6 :: o7 :: o8 :: o9 :: o10 :: o11 :: o12 :: some (.inl x) :: r) st S T) : zt L m pc (o0 :: o1 :: o2 :: o3 :: o4 :: o5 :: o6 :: o7 :: o8 :: o9 :: o10 :: o11 :: o12 :: u :: r) (.inl x :: st) S T := by
  obtain ⟨rfl, h1⟩ := zi_step hi
  refine zt_next ((h1 L _ _ _).trans ?_) h
  simp only [z_ex]
  rw [if_pos (by simp)]
  rfl
theorem zr_1_14 {L m pc np : Nat} {b : Int} {st : List zV} {S : zS} {T : zT} {x : Int32} {o0 o1 o2 o3 o4 o5 o6 o7 o8 o9 o10 o11 o12 o13 : Option zV} {r : List (Option zV)} (hi : zi m pc np 1 14 b) (h : zt L m np (o0 :: o1 :: o2 :: o3 :: o4 :: o5 :: o6 :: o7 :: o8 :: o9 :: o10 :: o11 :: o12 :: o13 :: some (.inl x) :: r) (.inl x :: st) S T) : zt L m pc (o0 :: o1 :: o2 :: o3 :: o4 :: o5 :: o6 :: o7 :: o8 :: o9 :: o10 :: o11 :: o12 :: o13 :: some (.inl x) :: r) st S T := by
  obtain ⟨rfl, h1⟩ := zi_step hi
  exact zt_next ((h1 L _ _ _).trans rfl) h
theorem zr_3_14 {L m pc np : Nat} {b : Int} {st : List zV} {S : zS} {T : zT} {x : Int32} {o0 o1 o2 o3 o4 o5 o6 o7 o8 o9 o10 o11 o12 o13 : Option zV} {u : Option zV} {r : List (Option zV)} (hi : zi m pc np 3 14 b) (h : zt L m np (o0 :: o1 :: o2 :: o3 :: o4 :: o5 :: o6 :: o7 :: o8 :: o9 :: o10 :: o11 :: o12 :: o13 :: some (.inl x) :: r) st S T) : zt L m pc (o0 :: o1 :: o2 :: o3 :: o4 :: o5 :: o6 :: o7 :: o8 :: o9 :: o10 :: o11 :: o12 :: o13 :: u :: r) (.inl x :: st) S T := by
  obtain ⟨rfl, h1⟩ := zi_step hi
  refine zt_next ((h1 L _ _ _).trans ?_) h
  simp only [z_ex]
  rw [if_pos (by simp)]
  rfl
theorem zr_1_15 {L m pc np : Nat} {b : Int} {st : List zV} {S : zS} {T : zT} {x : Int32} {o0 o1 o2 o3 o4 o5 o6 o7 o8 o9 o10 o11 o12 o13 o14 : Option zV} {r : List (Option zV)} (hi : zi m pc np 1 15 b) (h : zt L m np (o0 :: o1 :: o2 :: o3 :: o4 :: o5 :: o6 :: o7 :: o8 :: o9 :: o10 :: o11 :: o12 :: o13 :: o14 :: some (.inl x) :: r) (.inl x :: st) S T) : zt L m pc (o0 :: o1 :: o2 :: o3 :: o4 :: o5 :: o6 :: o7 :: o8 :: o9 :: o10 :: o11 :: o12 :: o13 :: o14 :: some (.inl x) :: r) st S T := by
  obtain ⟨rfl, h1⟩ := zi_step hi
  exact zt_next ((h1 L _ _ _).trans rfl) h
theorem zr_3_15 {L m pc np : Nat} {b : Int} {st : List zV} {S : zS} {T : zT} {x : Int32} {o0 o1 o2 o3 o4 o5 o6 o7 o8 o9 o10 o11 o12 o13 o14 : Option zV} {u : Option zV} {r : List (Option zV)} (hi : zi m pc np 3 15 b) (h : zt L m np (o0 :: o1 :: o2 :: o3 :: o4 :: o5 :: o6 :: o7 :: o8 :: o9 :: o10 :: o11 :: o12 :: o13 :: o14 :: some (.inl x) :: r) st S T) : zt L m pc (o0 :: o1 :: o2 :: o3 :: o4 :: o5 :: o6 :: o7 :: o8 :: o9 :: o10 :: o11 :: o12 :: o13 :: o14 :: u :: r) (.inl x :: st) S T := by
  obtain ⟨rfl, h1⟩ := zi_step hi
  refine zt_next ((h1 L _ _ _).trans ?_) h
  simp only [z_ex]
  rw [if_pos (by simp)]
  rfl
theorem zr_1_16 {L m pc np : Nat} {b : Int} {st : List zV} {S : zS} {T : zT} {x : Int32} {o0 o1 o2 o3 o4 o5 o6 o7 o8 o9 o10 o11 o12 o13 o14 o15 : Option zV} {r : List (Option zV)} (hi : zi m pc np 1 16 b) (h : zt L m np (o0 :: o1 :: o2 :: o3 :: o4 :: o5 :: o6 :: o7 :: o8 :: o9 :: o10 :: o11 :: o12 :: o13 :: o14 :: o15 :: some (.inl x) :: r) (.inl x :: st) S T) : zt L m pc (o0 :: o1 :: o2 :: o3 :: o4 :: o5 :: o6 :: o7 :: o8 :: o9 :: o10 :: o11 :: o12 :: o13 :: o14 :: o15 :: some (.inl x) :: r) st S T := by
  obtain ⟨rfl, h1⟩ := zi_step hi
  exact zt_next ((h1 L _ _ _).trans rfl) h
theorem zr_3_16 {L m pc np : Nat} {b : Int} {st : List zV} {S : zS} {T : zT} {x : Int32} {o0 o1 o2 o3 o4 o5 o6 o7 o8 o9 o10 o11 o12 o13 o14 o15 : Option zV} {u : Option zV} {r : List (Option zV)} (hi : zi m pc np 3 16 b) (h : zt L m np (o0 :: o1 :: o2 :: o3 :: o4 :: o5 :: o6 :: o7 :: o8 :: o9 :: o10 :: o11 :: o12 :: o13 :: o14 :: o15 :: some (.inl x) :: r) st S T) : zt L m pc (o0 :: o1 :: o2 :: o3 :: o4 :: o5 :: o6 :: o7 :: o8 :: o9 :: o10 :: o11 :: o12 :: o13 :: o14 :: o15 :: u :: r) (.inl x :: st) S T := by
  obtain ⟨rfl, h1⟩ := zi_step hi
  refine zt_next ((h1 L _ _ _).trans ?_) h
  simp only [z_ex]
  rw [if_pos (by simp)]
  rfl
