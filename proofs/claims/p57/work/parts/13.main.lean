theorem z_nr0 {L pc a : Nat} {b : Int} {lv : List (Option zV)} {st : List zV} {S : zS} {r : Option zV} (hs : z_ex L pc lv st S 0 a b = some (.inr (.inr (.inl r)))) : False := by
  simp only [z_ex, z_call, z_br] at hs
  repeat' split at hs
  all_goals (first | (cases hs; done) | (simp at hs; done))
theorem z_nt0 {L pc a E : Nat} {b : Int} {lv : List (Option zV)} {st : List zV} {S : zS} (hs : z_ex L pc lv st S 0 a b = some (.inr (.inr (.inr E)))) : False := by
  simp only [z_ex, z_call, z_br] at hs
  repeat' split at hs
  all_goals (first | (cases hs; done) | (simp at hs; done))
theorem z_nr1 {L pc a : Nat} {b : Int} {lv : List (Option zV)} {st : List zV} {S : zS} {r : Option zV} (hs : z_ex L pc lv st S 1 a b = some (.inr (.inr (.inl r)))) : False := by
  simp only [z_ex, z_call, z_br] at hs
  repeat' split at hs
  all_goals (first | (cases hs; done) | (simp at hs; done))
theorem z_nt1 {L pc a E : Nat} {b : Int} {lv : List (Option zV)} {st : List zV} {S : zS} (hs : z_ex L pc lv st S 1 a b = some (.inr (.inr (.inr E)))) : False := by
  simp only [z_ex, z_call, z_br] at hs
  repeat' split at hs
  all_goals (first | (cases hs; done) | (simp at hs; done))
theorem z_nr2 {L pc a : Nat} {b : Int} {lv : List (Option zV)} {st : List zV} {S : zS} {r : Option zV} (hs : z_ex L pc lv st S 2 a b = some (.inr (.inr (.inl r)))) : False := by
  simp only [z_ex, z_call, z_br] at hs
  repeat' split at hs
  all_goals (first | (cases hs; done) | (simp at hs; done))
theorem z_nt2 {L pc a E : Nat} {b : Int} {lv : List (Option zV)} {st : List zV} {S : zS} (hs : z_ex L pc lv st S 2 a b = some (.inr (.inr (.inr E)))) : False := by
  simp only [z_ex, z_call, z_br] at hs
  repeat' split at hs
  all_goals (first | (cases hs; done) | (simp at hs; done))
theorem z_nr3 {L pc a : Nat} {b : Int} {lv : List (Option zV)} {st : List zV} {S : zS} {r : Option zV} (hs : z_ex L pc lv st S 3 a b = some (.inr (.inr (.inl r)))) : False := by
  simp only [z_ex, z_call, z_br] at hs
  repeat' split at hs
  all_goals (first | (cases hs; done) | (simp at hs; done))
theorem z_nt3 {L pc a E : Nat} {b : Int} {lv : List (Option zV)} {st : List zV} {S : zS} (hs : z_ex L pc lv st S 3 a b = some (.inr (.inr (.inr E)))) : False := by
  simp only [z_ex, z_call, z_br] at hs
  repeat' split at hs
  all_goals (first | (cases hs; done) | (simp at hs; done))
theorem z_nr4 {L pc a : Nat} {b : Int} {lv : List (Option zV)} {st : List zV} {S : zS} {r : Option zV} (hs : z_ex L pc lv st S 4 a b = some (.inr (.inr (.inl r)))) : False := by
  simp only [z_ex, z_call, z_br] at hs
  repeat' split at hs
  all_goals (first | (cases hs; done) | (simp at hs; done))
theorem z_nt4 {L pc a E : Nat} {b : Int} {lv : List (Option zV)} {st : List zV} {S : zS} (hs : z_ex L pc lv st S 4 a b = some (.inr (.inr (.inr E)))) : False := by
  simp only [z_ex, z_call, z_br] at hs
  repeat' split at hs
  all_goals (first | (cases hs; done) | (simp at hs; done))
theorem z_nr5 {L pc a : Nat} {b : Int} {lv : List (Option zV)} {st : List zV} {S : zS} {r : Option zV} (hs : z_ex L pc lv st S 5 a b = some (.inr (.inr (.inl r)))) : False := by
  simp only [z_ex, z_call, z_br] at hs
  repeat' split at hs
  all_goals (first | (cases hs; done) | (simp at hs; done))
theorem z_nt5 {L pc a E : Nat} {b : Int} {lv : List (Option zV)} {st : List zV} {S : zS} (hs : z_ex L pc lv st S 5 a b = some (.inr (.inr (.inr E)))) : False := by
  simp only [z_ex, z_call, z_br] at hs
  repeat' split at hs
  all_goals (first | (cases hs; done) | (simp at hs; done))
theorem z_nr6 {L pc a : Nat} {b : Int} {lv : List (Option zV)} {st : List zV} {S : zS} {r : Option zV} (hs : z_ex L pc lv st S 6 a b = some (.inr (.inr (.inl r)))) : False := by
  simp only [z_ex, z_call, z_br] at hs
  repeat' split at hs
  all_goals (first | (cases hs; done) | (simp at hs; done))
theorem z_nt6 {L pc a E : Nat} {b : Int} {lv : List (Option zV)} {st : List zV} {S : zS} (hs : z_ex L pc lv st S 6 a b = some (.inr (.inr (.inr E)))) : False := by
  simp only [z_ex, z_call, z_br] at hs
  repeat' split at hs
  all_goals (first | (cases hs; done) | (simp at hs; done))
theorem z_nr7 {L pc a : Nat} {b : Int} {lv : List (Option zV)} {st : List zV} {S : zS} {r : Option zV} (hs : z_ex L pc lv st S 7 a b = some (.inr (.inr (.inl r)))) : False := by
  simp only [z_ex, z_call, z_br] at hs
  repeat' split at hs
  all_goals (first | (cases hs; done) | (simp at hs; done))
theorem z_nt7 {L pc a E : Nat} {b : Int} {lv : List (Option zV)} {st : List zV} {S : zS} (hs : z_ex L pc lv st S 7 a b = some (.inr (.inr (.inr E)))) : False := by
  simp only [z_ex, z_call, z_br] at hs
  repeat' split at hs
  all_goals (first | (cases hs; done) | (simp at hs; done))
theorem z_nr8 {L pc a : Nat} {b : Int} {lv : List (Option zV)} {st : List zV} {S : zS} {r : Option zV} (hs : z_ex L pc lv st S 8 a b = some (.inr (.inr (.inl r)))) : False := by
  simp only [z_ex, z_call, z_br] at hs
  repeat' split at hs
  all_goals (first | (cases hs; done) | (simp at hs; done))
theorem z_nt8 {L pc a E : Nat} {b : Int} {lv : List (Option zV)} {st : List zV} {S : zS} (hs : z_ex L pc lv st S 8 a b = some (.inr (.inr (.inr E)))) : False := by
  simp only [z_ex, z_call, z_br] at hs
  repeat' split at hs
  all_goals (first | (cases hs; done) | (simp at hs; done))
theorem z_nr9 {L pc a : Nat} {b : Int} {lv : List (Option zV)} {st : List zV} {S : zS} {r : Option zV} (hs : z_ex L pc lv st S 9 a b = some (.inr (.inr (.inl r)))) : False := by
  simp only [z_ex, z_call, z_br] at hs
  repeat' split at hs
  all_goals (first | (cases hs; done) | (simp at hs; done))
theorem z_nt9 {L pc a E : Nat} {b : Int} {lv : List (Option zV)} {st : List zV} {S : zS} (hs : z_ex L pc lv st S 9 a b = some (.inr (.inr (.inr E)))) : False := by
  simp only [z_ex, z_call, z_br] at hs
  repeat' split at hs
  all_goals (first | (cases hs; done) | (simp at hs; done))
theorem z_nr10 {L pc a : Nat} {b : Int} {lv : List (Option zV)} {st : List zV} {S : zS} {r : Option zV} (hs : z_ex L pc lv st S 10 a b = some (.inr (.inr (.inl r)))) : False := by
  simp only [z_ex, z_call, z_br] at hs
  repeat' split at hs
  all_goals (first | (cases hs; done) | (simp at hs; done))
theorem z_nt10 {L pc a E : Nat} {b : Int} {lv : List (Option zV)} {st : List zV} {S : zS} (hs : z_ex L pc lv st S 10 a b = some (.inr (.inr (.inr E)))) : False := by
  simp only [z_ex, z_call, z_br] at hs
  repeat' split at hs
  all_goals (first | (cases hs; done) | (simp at hs; done))
theorem z_nr11 {L pc a : Nat} {b : Int} {lv : List (Option zV)} {st : List zV} {S : zS} {r : Option zV} (hs : z_ex L pc lv st S 11 a b = some (.inr (.inr (.inl r)))) : False := by
  simp only [z_ex, z_call, z_br] at hs
  repeat' split at hs
  all_goals (first | (cases hs; done) | (simp at hs; done))
theorem z_nt11 {L pc a E : Nat} {b : Int} {lv : List (Option zV)} {st : List zV} {S : zS} (hs : z_ex L pc lv st S 11 a b = some (.inr (.inr (.inr E)))) : False := by
  simp only [z_ex, z_call, z_br] at hs
  repeat' split at hs
  all_goals (first | (cases hs; done) | (simp at hs; done))
theorem z_nr12 {L pc a : Nat} {b : Int} {lv : List (Option zV)} {st : List zV} {S : zS} {r : Option zV} (hs : z_ex L pc lv st S 12 a b = some (.inr (.inr (.inl r)))) : False := by
  simp only [z_ex, z_call, z_br] at hs
  repeat' split at hs
  all_goals (first | (cases hs; done) | (simp at hs; done))
theorem z_nt12 {L pc a E : Nat} {b : Int} {lv : List (Option zV)} {st : List zV} {S : zS} (hs : z_ex L pc lv st S 12 a b = some (.inr (.inr (.inr E)))) : False := by
  simp only [z_ex, z_call, z_br] at hs
  repeat' split at hs
  all_goals (first | (cases hs; done) | (simp at hs; done))
theorem z_nr13 {L pc a : Nat} {b : Int} {lv : List (Option zV)} {st : List zV} {S : zS} {r : Option zV} (hs : z_ex L pc lv st S 13 a b = some (.inr (.inr (.inl r)))) : False := by
  simp only [z_ex, z_call, z_br] at hs
  repeat' split at hs
  all_goals (first | (cases hs; done) | (simp at hs; done))
theorem z_nt13 {L pc a E : Nat} {b : Int} {lv : List (Option zV)} {st : List zV} {S : zS} (hs : z_ex L pc lv st S 13 a b = some (.inr (.inr (.inr E)))) : False := by
  simp only [z_ex, z_call, z_br] at hs
  repeat' split at hs
  all_goals (first | (cases hs; done) | (simp at hs; done))
theorem z_nr14 {L pc a : Nat} {b : Int} {lv : List (Option zV)} {st : List zV} {S : zS} {r : Option zV} (hs : z_ex L pc lv st S 14 a b = some (.inr (.inr (.inl r)))) : False := by
  simp only [z_ex, z_call, z_br] at hs
  repeat' split at hs
  all_goals (first | (cases hs; done) | (simp at hs; done))
theorem z_nt14 {L pc a E : Nat} {b : Int} {lv : List (Option zV)} {st : List zV} {S : zS} (hs : z_ex L pc lv st S 14 a b = some (.inr (.inr (.inr E)))) : False := by
  simp only [z_ex, z_call, z_br] at hs
  repeat' split at hs
  all_goals (first | (cases hs; done) | (simp at hs; done))
theorem z_nr15 {L pc a : Nat} {b : Int} {lv : List (Option zV)} {st : List zV} {S : zS} {r : Option zV} (hs : z_ex L pc lv st S 15 a b = some (.inr (.inr (.inl r)))) : False := by
  simp only [z_ex, z_call, z_br] at hs
  repeat' split at hs
  all_goals (first | (cases hs; done) | (simp at hs; done))
theorem z_nt15 {L pc a E : Nat} {b : Int} {lv : List (Option zV)} {st : List zV} {S : zS} (hs : z_ex L pc lv st S 15 a b = some (.inr (.inr (.inr E)))) : False := by
  simp only [z_ex, z_call, z_br] at hs
  repeat' split at hs
  all_goals (first | (cases hs; done) | (simp at hs; done))
theorem z_nr16 {L pc a : Nat} {b : Int} {lv : List (Option zV)} {st : List zV} {S : zS} {r : Option zV} (hs : z_ex L pc lv st S 16 a b = some (.inr (.inr (.inl r)))) : False := by
  simp only [z_ex, z_call, z_br] at hs
  repeat' split at hs
  all_goals (first | (cases hs; done) | (simp at hs; done))
theorem z_nt16 {L pc a E : Nat} {b : Int} {lv : List (Option zV)} {st : List zV} {S : zS} (hs : z_ex L pc lv st S 16 a b = some (.inr (.inr (.inr E)))) : False := by
  simp only [z_ex, z_call, z_br] at hs
  repeat' split at hs
  all_goals (first | (cases hs; done) | (simp at hs; done))
theorem z_nr17 {L pc a : Nat} {b : Int} {lv : List (Option zV)} {st : List zV} {S : zS} {r : Option zV} (hs : z_ex L pc lv st S 17 a b = some (.inr (.inr (.inl r)))) : False := by
  simp only [z_ex, z_call, z_br] at hs
  repeat' split at hs
  all_goals (first | (cases hs; done) | (simp at hs; done))
theorem z_nt17 {L pc a E : Nat} {b : Int} {lv : List (Option zV)} {st : List zV} {S : zS} (hs : z_ex L pc lv st S 17 a b = some (.inr (.inr (.inr E)))) : False := by
  simp only [z_ex, z_call, z_br] at hs
  repeat' split at hs
  all_goals (first | (cases hs; done) | (simp at hs; done))
theorem z_nr18 {L pc a : Nat} {b : Int} {lv : List (Option zV)} {st : List zV} {S : zS} {r : Option zV} (hs : z_ex L pc lv st S 18 a b = some (.inr (.inr (.inl r)))) : False := by
  simp only [z_ex, z_call, z_br] at hs
  repeat' split at hs
  all_goals (first | (cases hs; done) | (simp at hs; done))
theorem z_nt18 {L pc a E : Nat} {b : Int} {lv : List (Option zV)} {st : List zV} {S : zS} (hs : z_ex L pc lv st S 18 a b = some (.inr (.inr (.inr E)))) : False := by
  simp only [z_ex, z_call, z_br] at hs
  repeat' split at hs
  all_goals (first | (cases hs; done) | (simp at hs; done))
theorem z_nr19 {L pc a : Nat} {b : Int} {lv : List (Option zV)} {st : List zV} {S : zS} {r : Option zV} (hs : z_ex L pc lv st S 19 a b = some (.inr (.inr (.inl r)))) : False := by
  simp only [z_ex, z_call, z_br] at hs
  repeat' split at hs
  all_goals (first | (cases hs; done) | (simp at hs; done))
theorem z_nt19 {L pc a E : Nat} {b : Int} {lv : List (Option zV)} {st : List zV} {S : zS} (hs : z_ex L pc lv st S 19 a b = some (.inr (.inr (.inr E)))) : False := by
  simp only [z_ex, z_call, z_br] at hs
  repeat' split at hs
  all_goals (first | (cases hs; done) | (simp at hs; done))
theorem z_nr20 {L pc a : Nat} {b : Int} {lv : List (Option zV)} {st : List zV} {S : zS} {r : Option zV} (hs : z_ex L pc lv st S 20 a b = some (.inr (.inr (.inl r)))) : False := by
  simp only [z_ex] at hs
  split at hs
  · rcases z_sel_at hs with ⟨pre, t, suf, e1, e2, e3⟩ | ⟨e1, e3⟩ <;> cases e3
  · cases hs
theorem z_nt20 {L pc a : Nat} {b : Int} {lv : List (Option zV)} {st : List zV} {S : zS} {E : Nat} (hs : z_ex L pc lv st S 20 a b = some (.inr (.inr (.inr E)))) : False := by
  simp only [z_ex] at hs
  split at hs
  · rcases z_sel_at hs with ⟨pre, t, suf, e1, e2, e3⟩ | ⟨e1, e3⟩ <;> cases e3
  · cases hs
theorem z_nr21 {L pc a : Nat} {b : Int} {lv : List (Option zV)} {st : List zV} {S : zS} {r : Option zV} (hs : z_ex L pc lv st S 21 a b = some (.inr (.inr (.inl r)))) : False := by
  simp only [z_ex, z_call, z_br] at hs
  repeat' split at hs
  all_goals (first | (cases hs; done) | (simp at hs; done))
theorem z_nt21 {L pc a E : Nat} {b : Int} {lv : List (Option zV)} {st : List zV} {S : zS} (hs : z_ex L pc lv st S 21 a b = some (.inr (.inr (.inr E)))) : False := by
  simp only [z_ex, z_call, z_br] at hs
  repeat' split at hs
  all_goals (first | (cases hs; done) | (simp at hs; done))
theorem z_nr22 {L pc a : Nat} {b : Int} {lv : List (Option zV)} {st : List zV} {S : zS} {r : Option zV} (hs : z_ex L pc lv st S 22 a b = some (.inr (.inr (.inl r)))) : False := by
  simp only [z_ex, z_call, z_br] at hs
  repeat' split at hs
  all_goals (first | (cases hs; done) | (simp at hs; done))
theorem z_nt22 {L pc a E : Nat} {b : Int} {lv : List (Option zV)} {st : List zV} {S : zS} (hs : z_ex L pc lv st S 22 a b = some (.inr (.inr (.inr E)))) : False := by
  simp only [z_ex, z_call, z_br] at hs
  repeat' split at hs
  all_goals (first | (cases hs; done) | (simp at hs; done))
theorem z_nr23 {L pc a : Nat} {b : Int} {lv : List (Option zV)} {st : List zV} {S : zS} {r : Option zV} (hs : z_ex L pc lv st S 23 a b = some (.inr (.inr (.inl r)))) : False := by
  simp only [z_ex, z_call, z_br] at hs
  repeat' split at hs
  all_goals (first | (cases hs; done) | (simp at hs; done))
theorem z_nt23 {L pc a E : Nat} {b : Int} {lv : List (Option zV)} {st : List zV} {S : zS} (hs : z_ex L pc lv st S 23 a b = some (.inr (.inr (.inr E)))) : False := by
  simp only [z_ex, z_call, z_br] at hs
  repeat' split at hs
  all_goals (first | (cases hs; done) | (simp at hs; done))
theorem z_nr24 {L pc a : Nat} {b : Int} {lv : List (Option zV)} {st : List zV} {S : zS} {r : Option zV} (hs : z_ex L pc lv st S 24 a b = some (.inr (.inr (.inl r)))) : False := by
  simp only [z_ex, z_call, z_br] at hs
  repeat' split at hs
  all_goals (first | (cases hs; done) | (simp at hs; done))
theorem z_nt24 {L pc a E : Nat} {b : Int} {lv : List (Option zV)} {st : List zV} {S : zS} (hs : z_ex L pc lv st S 24 a b = some (.inr (.inr (.inr E)))) : False := by
  simp only [z_ex, z_call, z_br] at hs
  repeat' split at hs
  all_goals (first | (cases hs; done) | (simp at hs; done))
theorem z_nt25 {L pc a E : Nat} {b : Int} {lv : List (Option zV)} {st : List zV} {S : zS} (hs : z_ex L pc lv st S 25 a b = some (.inr (.inr (.inr E)))) : False := by
  simp only [z_ex, z_call, z_br] at hs
  repeat' split at hs
  all_goals (first | (cases hs; done) | (simp at hs; done))
theorem z_nt26 {L pc a E : Nat} {b : Int} {lv : List (Option zV)} {st : List zV} {S : zS} (hs : z_ex L pc lv st S 26 a b = some (.inr (.inr (.inr E)))) : False := by
  simp only [z_ex, z_call, z_br] at hs
  repeat' split at hs
  all_goals (first | (cases hs; done) | (simp at hs; done))
theorem z_nt27 {L pc a E : Nat} {b : Int} {lv : List (Option zV)} {st : List zV} {S : zS} (hs : z_ex L pc lv st S 27 a b = some (.inr (.inr (.inr E)))) : False := by
  simp only [z_ex, z_call, z_br] at hs
  repeat' split at hs
  all_goals (first | (cases hs; done) | (simp at hs; done))
theorem z_nt28 {L pc a E : Nat} {b : Int} {lv : List (Option zV)} {st : List zV} {S : zS} (hs : z_ex L pc lv st S 28 a b = some (.inr (.inr (.inr E)))) : False := by
  simp only [z_ex, z_call, z_br] at hs
  repeat' split at hs
  all_goals (first | (cases hs; done) | (simp at hs; done))
theorem z_nr29 {L pc a : Nat} {b : Int} {lv : List (Option zV)} {st : List zV} {S : zS} {r : Option zV} (hs : z_ex L pc lv st S 29 a b = some (.inr (.inr (.inl r)))) : False := by
  simp only [z_ex, z_call, z_br] at hs
  repeat' split at hs
  all_goals (first | (cases hs; done) | (simp at hs; done))
theorem z_nr30 {L pc a : Nat} {b : Int} {lv : List (Option zV)} {st : List zV} {S : zS} {r : Option zV} (hs : z_ex L pc lv st S 30 a b = some (.inr (.inr (.inl r)))) : False := by
  simp only [z_ex, z_call, z_br] at hs
  repeat' split at hs
  all_goals (first | (cases hs; done) | (simp at hs; done))
theorem z_nt30 {L pc a E : Nat} {b : Int} {lv : List (Option zV)} {st : List zV} {S : zS} (hs : z_ex L pc lv st S 30 a b = some (.inr (.inr (.inr E)))) : False := by
  simp only [z_ex, z_call, z_br] at hs
  repeat' split at hs
  all_goals (first | (cases hs; done) | (simp at hs; done))
theorem z_nr31 {L pc a : Nat} {b : Int} {lv : List (Option zV)} {st : List zV} {S : zS} {r : Option zV} (hs : z_ex L pc lv st S 31 a b = some (.inr (.inr (.inl r)))) : False := by
  simp only [z_ex, z_call, z_br] at hs
  repeat' split at hs
  all_goals (first | (cases hs; done) | (simp at hs; done))
theorem z_nt31 {L pc a E : Nat} {b : Int} {lv : List (Option zV)} {st : List zV} {S : zS} (hs : z_ex L pc lv st S 31 a b = some (.inr (.inr (.inr E)))) : False := by
  simp only [z_ex, z_call, z_br] at hs
  repeat' split at hs
  all_goals (first | (cases hs; done) | (simp at hs; done))
theorem z_nr32 {L pc a : Nat} {b : Int} {lv : List (Option zV)} {st : List zV} {S : zS} {r : Option zV} (hs : z_ex L pc lv st S 32 a b = some (.inr (.inr (.inl r)))) : False := by
  simp only [z_ex, z_call, z_br] at hs
  repeat' split at hs
  all_goals (first | (cases hs; done) | (simp at hs; done))
theorem z_nt32 {L pc a E : Nat} {b : Int} {lv : List (Option zV)} {st : List zV} {S : zS} (hs : z_ex L pc lv st S 32 a b = some (.inr (.inr (.inr E)))) : False := by
  simp only [z_ex, z_call, z_br] at hs
  repeat' split at hs
  all_goals (first | (cases hs; done) | (simp at hs; done))
theorem z_nr33 {L pc a : Nat} {b : Int} {lv : List (Option zV)} {st : List zV} {S : zS} {r : Option zV} (hs : z_ex L pc lv st S 33 a b = some (.inr (.inr (.inl r)))) : False := by
  simp only [z_ex, z_call, z_br] at hs
  repeat' split at hs
  all_goals (first | (cases hs; done) | (simp at hs; done))
theorem z_nt33 {L pc a E : Nat} {b : Int} {lv : List (Option zV)} {st : List zV} {S : zS} (hs : z_ex L pc lv st S 33 a b = some (.inr (.inr (.inr E)))) : False := by
  simp only [z_ex, z_call, z_br] at hs
  repeat' split at hs
  all_goals (first | (cases hs; done) | (simp at hs; done))
theorem z_nr34 {L pc a : Nat} {b : Int} {lv : List (Option zV)} {st : List zV} {S : zS} {r : Option zV} (hs : z_ex L pc lv st S 34 a b = some (.inr (.inr (.inl r)))) : False := by
  simp only [z_ex, z_call, z_br] at hs
  repeat' split at hs
  all_goals (first | (cases hs; done) | (simp at hs; done))
theorem z_nt34 {L pc a E : Nat} {b : Int} {lv : List (Option zV)} {st : List zV} {S : zS} (hs : z_ex L pc lv st S 34 a b = some (.inr (.inr (.inr E)))) : False := by
  simp only [z_ex, z_call, z_br] at hs
  repeat' split at hs
  all_goals (first | (cases hs; done) | (simp at hs; done))
theorem z_nr35 {L pc a : Nat} {b : Int} {lv : List (Option zV)} {st : List zV} {S : zS} {r : Option zV} (hs : z_ex L pc lv st S 35 a b = some (.inr (.inr (.inl r)))) : False := by
  simp only [z_ex, z_call, z_br] at hs
  repeat' split at hs
  all_goals (first | (cases hs; done) | (simp at hs; done))
theorem z_nt35 {L pc a E : Nat} {b : Int} {lv : List (Option zV)} {st : List zV} {S : zS} (hs : z_ex L pc lv st S 35 a b = some (.inr (.inr (.inr E)))) : False := by
  simp only [z_ex, z_call, z_br] at hs
  repeat' split at hs
  all_goals (first | (cases hs; done) | (simp at hs; done))
theorem z_nr36 {L pc a : Nat} {b : Int} {lv : List (Option zV)} {st : List zV} {S : zS} {r : Option zV} (hs : z_ex L pc lv st S 36 a b = some (.inr (.inr (.inl r)))) : False := by
  simp only [z_ex] at hs
  split at hs
  · rcases z_sel_at hs with ⟨pre, t, suf, e1, e2, e3⟩ | ⟨e1, e3⟩ <;> cases e3
  · cases hs
theorem z_nt36 {L pc a : Nat} {b : Int} {lv : List (Option zV)} {st : List zV} {S : zS} {E : Nat} (hs : z_ex L pc lv st S 36 a b = some (.inr (.inr (.inr E)))) : False := by
  simp only [z_ex] at hs
  split at hs
  · rcases z_sel_at hs with ⟨pre, t, suf, e1, e2, e3⟩ | ⟨e1, e3⟩ <;> cases e3
  · cases hs
theorem z_nr37 {L pc a : Nat} {b : Int} {lv : List (Option zV)} {st : List zV} {S : zS} {r : Option zV} (hs : z_ex L pc lv st S 37 a b = some (.inr (.inr (.inl r)))) : False := by
  simp only [z_ex, z_call, z_br] at hs
  repeat' split at hs
  all_goals (first | (cases hs; done) | (simp at hs; done))
theorem z_nt37 {L pc a E : Nat} {b : Int} {lv : List (Option zV)} {st : List zV} {S : zS} (hs : z_ex L pc lv st S 37 a b = some (.inr (.inr (.inr E)))) : False := by
  simp only [z_ex, z_call, z_br] at hs
  repeat' split at hs
  all_goals (first | (cases hs; done) | (simp at hs; done))
theorem z_nr38 {L pc a : Nat} {b : Int} {lv : List (Option zV)} {st : List zV} {S : zS} {r : Option zV} (hs : z_ex L pc lv st S 38 a b = some (.inr (.inr (.inl r)))) : False := by
  simp only [z_ex, z_call, z_br] at hs
  repeat' split at hs
  all_goals (first | (cases hs; done) | (simp at hs; done))
theorem z_nt38 {L pc a E : Nat} {b : Int} {lv : List (Option zV)} {st : List zV} {S : zS} (hs : z_ex L pc lv st S 38 a b = some (.inr (.inr (.inr E)))) : False := by
  simp only [z_ex, z_call, z_br] at hs
  repeat' split at hs
  all_goals (first | (cases hs; done) | (simp at hs; done))
theorem z_nr39 {L pc a : Nat} {b : Int} {lv : List (Option zV)} {st : List zV} {S : zS} {r : Option zV} (hs : z_ex L pc lv st S 39 a b = some (.inr (.inr (.inl r)))) : False := by
  simp only [z_ex, z_call, z_br] at hs
  repeat' split at hs
  all_goals (first | (cases hs; done) | (simp at hs; done))
theorem z_nt39 {L pc a E : Nat} {b : Int} {lv : List (Option zV)} {st : List zV} {S : zS} (hs : z_ex L pc lv st S 39 a b = some (.inr (.inr (.inr E)))) : False := by
  simp only [z_ex, z_call, z_br] at hs
  repeat' split at hs
  all_goals (first | (cases hs; done) | (simp at hs; done))
theorem z_nc0 {L pc a k : Nat} {b : Int} {lv : List (Option zV)} {st as : List zV} {S : zS} {c2 : zCfg} (hs : z_ex L pc lv st S 0 a b = some (.inr (.inl (k, as, c2)))) : False := by
  simp only [z_ex, z_br] at hs
  repeat' split at hs
  all_goals (first | (cases hs; done) | (simp at hs; done))
theorem z_nc1 {L pc a k : Nat} {b : Int} {lv : List (Option zV)} {st as : List zV} {S : zS} {c2 : zCfg} (hs : z_ex L pc lv st S 1 a b = some (.inr (.inl (k, as, c2)))) : False := by
  simp only [z_ex, z_br] at hs
  repeat' split at hs
  all_goals (first | (cases hs; done) | (simp at hs; done))
theorem z_nc2 {L pc a k : Nat} {b : Int} {lv : List (Option zV)} {st as : List zV} {S : zS} {c2 : zCfg} (hs : z_ex L pc lv st S 2 a b = some (.inr (.inl (k, as, c2)))) : False := by
  simp only [z_ex, z_br] at hs
  repeat' split at hs
  all_goals (first | (cases hs; done) | (simp at hs; done))
theorem z_nc3 {L pc a k : Nat} {b : Int} {lv : List (Option zV)} {st as : List zV} {S : zS} {c2 : zCfg} (hs : z_ex L pc lv st S 3 a b = some (.inr (.inl (k, as, c2)))) : False := by
  simp only [z_ex, z_br] at hs
  repeat' split at hs
  all_goals (first | (cases hs; done) | (simp at hs; done))
theorem z_nc4 {L pc a k : Nat} {b : Int} {lv : List (Option zV)} {st as : List zV} {S : zS} {c2 : zCfg} (hs : z_ex L pc lv st S 4 a b = some (.inr (.inl (k, as, c2)))) : False := by
  simp only [z_ex, z_br] at hs
  repeat' split at hs
  all_goals (first | (cases hs; done) | (simp at hs; done))
theorem z_nc5 {L pc a k : Nat} {b : Int} {lv : List (Option zV)} {st as : List zV} {S : zS} {c2 : zCfg} (hs : z_ex L pc lv st S 5 a b = some (.inr (.inl (k, as, c2)))) : False := by
  simp only [z_ex, z_br] at hs
  repeat' split at hs
  all_goals (first | (cases hs; done) | (simp at hs; done))
theorem z_nc6 {L pc a k : Nat} {b : Int} {lv : List (Option zV)} {st as : List zV} {S : zS} {c2 : zCfg} (hs : z_ex L pc lv st S 6 a b = some (.inr (.inl (k, as, c2)))) : False := by
  simp only [z_ex, z_br] at hs
  repeat' split at hs
  all_goals (first | (cases hs; done) | (simp at hs; done))
theorem z_nc7 {L pc a k : Nat} {b : Int} {lv : List (Option zV)} {st as : List zV} {S : zS} {c2 : zCfg} (hs : z_ex L pc lv st S 7 a b = some (.inr (.inl (k, as, c2)))) : False := by
  simp only [z_ex, z_br] at hs
  repeat' split at hs
  all_goals (first | (cases hs; done) | (simp at hs; done))
theorem z_nc8 {L pc a k : Nat} {b : Int} {lv : List (Option zV)} {st as : List zV} {S : zS} {c2 : zCfg} (hs : z_ex L pc lv st S 8 a b = some (.inr (.inl (k, as, c2)))) : False := by
  simp only [z_ex, z_br] at hs
  repeat' split at hs
  all_goals (first | (cases hs; done) | (simp at hs; done))
theorem z_nc9 {L pc a k : Nat} {b : Int} {lv : List (Option zV)} {st as : List zV} {S : zS} {c2 : zCfg} (hs : z_ex L pc lv st S 9 a b = some (.inr (.inl (k, as, c2)))) : False := by
  simp only [z_ex, z_br] at hs
  repeat' split at hs
  all_goals (first | (cases hs; done) | (simp at hs; done))
theorem z_nc10 {L pc a k : Nat} {b : Int} {lv : List (Option zV)} {st as : List zV} {S : zS} {c2 : zCfg} (hs : z_ex L pc lv st S 10 a b = some (.inr (.inl (k, as, c2)))) : False := by
  simp only [z_ex, z_br] at hs
  repeat' split at hs
  all_goals (first | (cases hs; done) | (simp at hs; done))
theorem z_nc11 {L pc a k : Nat} {b : Int} {lv : List (Option zV)} {st as : List zV} {S : zS} {c2 : zCfg} (hs : z_ex L pc lv st S 11 a b = some (.inr (.inl (k, as, c2)))) : False := by
  simp only [z_ex, z_br] at hs
  repeat' split at hs
  all_goals (first | (cases hs; done) | (simp at hs; done))
theorem z_nc12 {L pc a k : Nat} {b : Int} {lv : List (Option zV)} {st as : List zV} {S : zS} {c2 : zCfg} (hs : z_ex L pc lv st S 12 a b = some (.inr (.inl (k, as, c2)))) : False := by
  simp only [z_ex, z_br] at hs
  repeat' split at hs
  all_goals (first | (cases hs; done) | (simp at hs; done))
theorem z_nc13 {L pc a k : Nat} {b : Int} {lv : List (Option zV)} {st as : List zV} {S : zS} {c2 : zCfg} (hs : z_ex L pc lv st S 13 a b = some (.inr (.inl (k, as, c2)))) : False := by
  simp only [z_ex, z_br] at hs
  repeat' split at hs
  all_goals (first | (cases hs; done) | (simp at hs; done))
theorem z_nc14 {L pc a k : Nat} {b : Int} {lv : List (Option zV)} {st as : List zV} {S : zS} {c2 : zCfg} (hs : z_ex L pc lv st S 14 a b = some (.inr (.inl (k, as, c2)))) : False := by
  simp only [z_ex, z_br] at hs
  repeat' split at hs
  all_goals (first | (cases hs; done) | (simp at hs; done))
theorem z_nc15 {L pc a k : Nat} {b : Int} {lv : List (Option zV)} {st as : List zV} {S : zS} {c2 : zCfg} (hs : z_ex L pc lv st S 15 a b = some (.inr (.inl (k, as, c2)))) : False := by
  simp only [z_ex, z_br] at hs
  repeat' split at hs
  all_goals (first | (cases hs; done) | (simp at hs; done))
theorem z_nc16 {L pc a k : Nat} {b : Int} {lv : List (Option zV)} {st as : List zV} {S : zS} {c2 : zCfg} (hs : z_ex L pc lv st S 16 a b = some (.inr (.inl (k, as, c2)))) : False := by
  simp only [z_ex, z_br] at hs
  repeat' split at hs
  all_goals (first | (cases hs; done) | (simp at hs; done))
theorem z_nc17 {L pc a k : Nat} {b : Int} {lv : List (Option zV)} {st as : List zV} {S : zS} {c2 : zCfg} (hs : z_ex L pc lv st S 17 a b = some (.inr (.inl (k, as, c2)))) : False := by
  simp only [z_ex, z_br] at hs
  repeat' split at hs
  all_goals (first | (cases hs; done) | (simp at hs; done))
theorem z_nc18 {L pc a k : Nat} {b : Int} {lv : List (Option zV)} {st as : List zV} {S : zS} {c2 : zCfg} (hs : z_ex L pc lv st S 18 a b = some (.inr (.inl (k, as, c2)))) : False := by
  simp only [z_ex, z_br] at hs
  repeat' split at hs
  all_goals (first | (cases hs; done) | (simp at hs; done))
theorem z_nc19 {L pc a k : Nat} {b : Int} {lv : List (Option zV)} {st as : List zV} {S : zS} {c2 : zCfg} (hs : z_ex L pc lv st S 19 a b = some (.inr (.inl (k, as, c2)))) : False := by
  simp only [z_ex, z_br] at hs
  repeat' split at hs
  all_goals (first | (cases hs; done) | (simp at hs; done))
theorem z_nc20 {L pc a k : Nat} {b : Int} {lv : List (Option zV)} {st as : List zV} {S : zS} {c2 : zCfg} (hs : z_ex L pc lv st S 20 a b = some (.inr (.inl (k, as, c2)))) : False := by
  simp only [z_ex] at hs
  split at hs
  · rcases z_sel_at hs with ⟨pre, t, suf, e1, e2, e3⟩ | ⟨e1, e3⟩ <;> cases e3
  · cases hs
theorem z_nc23 {L pc a k : Nat} {b : Int} {lv : List (Option zV)} {st as : List zV} {S : zS} {c2 : zCfg} (hs : z_ex L pc lv st S 23 a b = some (.inr (.inl (k, as, c2)))) : False := by
  simp only [z_ex, z_br] at hs
  repeat' split at hs
  all_goals (first | (cases hs; done) | (simp at hs; done))
theorem z_nc24 {L pc a k : Nat} {b : Int} {lv : List (Option zV)} {st as : List zV} {S : zS} {c2 : zCfg} (hs : z_ex L pc lv st S 24 a b = some (.inr (.inl (k, as, c2)))) : False := by
  simp only [z_ex, z_br] at hs
  repeat' split at hs
  all_goals (first | (cases hs; done) | (simp at hs; done))
theorem z_nc25 {L pc a k : Nat} {b : Int} {lv : List (Option zV)} {st as : List zV} {S : zS} {c2 : zCfg} (hs : z_ex L pc lv st S 25 a b = some (.inr (.inl (k, as, c2)))) : False := by
  simp only [z_ex, z_br] at hs
  repeat' split at hs
  all_goals (first | (cases hs; done) | (simp at hs; done))
theorem z_nc26 {L pc a k : Nat} {b : Int} {lv : List (Option zV)} {st as : List zV} {S : zS} {c2 : zCfg} (hs : z_ex L pc lv st S 26 a b = some (.inr (.inl (k, as, c2)))) : False := by
  simp only [z_ex, z_br] at hs
  repeat' split at hs
  all_goals (first | (cases hs; done) | (simp at hs; done))
theorem z_nc27 {L pc a k : Nat} {b : Int} {lv : List (Option zV)} {st as : List zV} {S : zS} {c2 : zCfg} (hs : z_ex L pc lv st S 27 a b = some (.inr (.inl (k, as, c2)))) : False := by
  simp only [z_ex, z_br] at hs
  repeat' split at hs
  all_goals (first | (cases hs; done) | (simp at hs; done))
theorem z_nc28 {L pc a k : Nat} {b : Int} {lv : List (Option zV)} {st as : List zV} {S : zS} {c2 : zCfg} (hs : z_ex L pc lv st S 28 a b = some (.inr (.inl (k, as, c2)))) : False := by
  simp only [z_ex, z_br] at hs
  repeat' split at hs
  all_goals (first | (cases hs; done) | (simp at hs; done))
theorem z_nc29 {L pc a k : Nat} {b : Int} {lv : List (Option zV)} {st as : List zV} {S : zS} {c2 : zCfg} (hs : z_ex L pc lv st S 29 a b = some (.inr (.inl (k, as, c2)))) : False := by
  simp only [z_ex, z_br] at hs
  repeat' split at hs
  all_goals (first | (cases hs; done) | (simp at hs; done))
theorem z_nc30 {L pc a k : Nat} {b : Int} {lv : List (Option zV)} {st as : List zV} {S : zS} {c2 : zCfg} (hs : z_ex L pc lv st S 30 a b = some (.inr (.inl (k, as, c2)))) : False := by
  simp only [z_ex, z_br] at hs
  repeat' split at hs
  all_goals (first | (cases hs; done) | (simp at hs; done))
theorem z_nc31 {L pc a k : Nat} {b : Int} {lv : List (Option zV)} {st as : List zV} {S : zS} {c2 : zCfg} (hs : z_ex L pc lv st S 31 a b = some (.inr (.inl (k, as, c2)))) : False := by
  simp only [z_ex, z_br] at hs
  repeat' split at hs
  all_goals (first | (cases hs; done) | (simp at hs; done))
theorem z_nc33 {L pc a k : Nat} {b : Int} {lv : List (Option zV)} {st as : List zV} {S : zS} {c2 : zCfg} (hs : z_ex L pc lv st S 33 a b = some (.inr (.inl (k, as, c2)))) : False := by
  simp only [z_ex, z_br] at hs
  repeat' split at hs
  all_goals (first | (cases hs; done) | (simp at hs; done))
theorem z_nc34 {L pc a k : Nat} {b : Int} {lv : List (Option zV)} {st as : List zV} {S : zS} {c2 : zCfg} (hs : z_ex L pc lv st S 34 a b = some (.inr (.inl (k, as, c2)))) : False := by
  simp only [z_ex, z_br] at hs
  repeat' split at hs
  all_goals (first | (cases hs; done) | (simp at hs; done))
theorem z_nc36 {L pc a k : Nat} {b : Int} {lv : List (Option zV)} {st as : List zV} {S : zS} {c2 : zCfg} (hs : z_ex L pc lv st S 36 a b = some (.inr (.inl (k, as, c2)))) : False := by
  simp only [z_ex] at hs
  split at hs
  · rcases z_sel_at hs with ⟨pre, t, suf, e1, e2, e3⟩ | ⟨e1, e3⟩ <;> cases e3
  · cases hs
theorem z_nc37 {L pc a k : Nat} {b : Int} {lv : List (Option zV)} {st as : List zV} {S : zS} {c2 : zCfg} (hs : z_ex L pc lv st S 37 a b = some (.inr (.inl (k, as, c2)))) : False := by
  simp only [z_ex, z_br] at hs
  repeat' split at hs
  all_goals (first | (cases hs; done) | (simp at hs; done))
theorem z_nc38 {L pc a k : Nat} {b : Int} {lv : List (Option zV)} {st as : List zV} {S : zS} {c2 : zCfg} (hs : z_ex L pc lv st S 38 a b = some (.inr (.inl (k, as, c2)))) : False := by
  simp only [z_ex, z_br] at hs
  repeat' split at hs
  all_goals (first | (cases hs; done) | (simp at hs; done))
theorem z_nc39 {L pc a k : Nat} {b : Int} {lv : List (Option zV)} {st as : List zV} {S : zS} {c2 : zCfg} (hs : z_ex L pc lv st S 39 a b = some (.inr (.inl (k, as, c2)))) : False := by
  simp only [z_ex, z_br] at hs
  repeat' split at hs
  all_goals (first | (cases hs; done) | (simp at hs; done))
theorem z_ret_inv {x : zI} {L pc mi : Nat} {lv : List (Option zV)} {st : List zV} {S : zS} {r : Option zV} (hok : z_okb mi pc x = true) (hs : z_ex L pc lv st S x.1 x.2.1 x.2.2.1 = some (.inr (.inr (.inl r)))) : z_isret mi (z_pc mi pc) r ∧ st = r.toList := by
  obtain ⟨op, a, b, ix, kw⟩ := x
  dsimp only at hs
  match op, hok, hs with
  | 0, hok, hs => exact (z_nr0 hs).elim
  | 1, hok, hs => exact (z_nr1 hs).elim
  | 2, hok, hs => exact (z_nr2 hs).elim
  | 3, hok, hs => exact (z_nr3 hs).elim
  | 4, hok, hs => exact (z_nr4 hs).elim
  | 5, hok, hs => exact (z_nr5 hs).elim
  | 6, hok, hs => exact (z_nr6 hs).elim
  | 7, hok, hs => exact (z_nr7 hs).elim
  | 8, hok, hs => exact (z_nr8 hs).elim
  | 9, hok, hs => exact (z_nr9 hs).elim
  | 10, hok, hs => exact (z_nr10 hs).elim
  | 11, hok, hs => exact (z_nr11 hs).elim
  | 12, hok, hs => exact (z_nr12 hs).elim
  | 13, hok, hs => exact (z_nr13 hs).elim
  | 14, hok, hs => exact (z_nr14 hs).elim
  | 15, hok, hs => exact (z_nr15 hs).elim
  | 16, hok, hs => exact (z_nr16 hs).elim
  | 17, hok, hs => exact (z_nr17 hs).elim
  | 18, hok, hs => exact (z_nr18 hs).elim
  | 19, hok, hs => exact (z_nr19 hs).elim
  | 20, hok, hs => exact (z_nr20 hs).elim
  | 21, hok, hs => exact (z_nr21 hs).elim
  | 22, hok, hs => exact (z_nr22 hs).elim
  | 23, hok, hs => exact (z_nr23 hs).elim
  | 24, hok, hs => exact (z_nr24 hs).elim
  | 25, hok, hs =>
    simp only [z_ex] at hs
    simp only [z_okb, Bool.and_eq_true, decide_eq_true_eq] at hok
    split at hs
    · next y => cases hs; exact ⟨⟨hok.1, Or.inl hok.2⟩, rfl⟩
    · cases hs
  | 26, hok, hs =>
    simp only [z_ex] at hs
    simp only [z_okb, Bool.and_eq_true, decide_eq_true_eq] at hok
    split at hs
    · next y =>
      split at hs
      · next hy => cases hs; exact ⟨⟨hok.1, Or.inr ⟨hok.2, hy⟩⟩, rfl⟩
      · cases hs
    · cases hs
  | 27, hok, hs =>
    simp only [z_ex] at hs
    simp only [z_okb, Bool.and_eq_true, decide_eq_true_eq] at hok
    split at hs
    · cases hs; exact ⟨⟨hok.1, hok.2⟩, rfl⟩
    · cases hs
  | 28, hok, hs =>
    simp only [z_ex] at hs
    simp only [z_okb, Bool.and_eq_true, decide_eq_true_eq] at hok
    split at hs
    · next k =>
      cases hs
      refine ⟨⟨hok.1, ?_⟩, rfl⟩
      have h2 := hok.2
      split at h2
      · next n hn => exact ⟨n, hn⟩
      · cases h2
    · cases hs
  | 29, hok, hs => exact (z_nr29 hs).elim
  | 30, hok, hs => exact (z_nr30 hs).elim
  | 31, hok, hs => exact (z_nr31 hs).elim
  | 32, hok, hs => exact (z_nr32 hs).elim
  | 33, hok, hs => exact (z_nr33 hs).elim
  | 34, hok, hs => exact (z_nr34 hs).elim
  | 35, hok, hs => exact (z_nr35 hs).elim
  | 36, hok, hs => exact (z_nr36 hs).elim
  | 37, hok, hs => exact (z_nr37 hs).elim
  | 38, hok, hs => exact (z_nr38 hs).elim
  | 39, hok, hs => exact (z_nr39 hs).elim
  | n + 40, hok, hs => cases hok
theorem z_thr_inv {x : zI} {L pc mi E : Nat} {lv : List (Option zV)} {st : List zV} {S : zS} (hok : z_okb mi pc x = true) (hs : z_ex L pc lv st S x.1 x.2.1 x.2.2.1 = some (.inr (.inr (.inr E)))) : ∃ (b : Int) (ix kw : Nat) (v : Int), z_okb mi pc (29, E, v, ix, kw) = true ∧ st = [] ∧ E < 3 ∧ (z_tb mi).isEmpty = true := by
  obtain ⟨op, a, b, ix, kw⟩ := x
  dsimp only at hs
  match op, hok, hs with
  | 0, hok, hs => exact (z_nt0 hs).elim
  | 1, hok, hs => exact (z_nt1 hs).elim
  | 2, hok, hs => exact (z_nt2 hs).elim
  | 3, hok, hs => exact (z_nt3 hs).elim
  | 4, hok, hs => exact (z_nt4 hs).elim
  | 5, hok, hs => exact (z_nt5 hs).elim
  | 6, hok, hs => exact (z_nt6 hs).elim
  | 7, hok, hs => exact (z_nt7 hs).elim
  | 8, hok, hs => exact (z_nt8 hs).elim
  | 9, hok, hs => exact (z_nt9 hs).elim
  | 10, hok, hs => exact (z_nt10 hs).elim
  | 11, hok, hs => exact (z_nt11 hs).elim
  | 12, hok, hs => exact (z_nt12 hs).elim
  | 13, hok, hs => exact (z_nt13 hs).elim
  | 14, hok, hs => exact (z_nt14 hs).elim
  | 15, hok, hs => exact (z_nt15 hs).elim
  | 16, hok, hs => exact (z_nt16 hs).elim
  | 17, hok, hs => exact (z_nt17 hs).elim
  | 18, hok, hs => exact (z_nt18 hs).elim
  | 19, hok, hs => exact (z_nt19 hs).elim
  | 20, hok, hs => exact (z_nt20 hs).elim
  | 21, hok, hs => exact (z_nt21 hs).elim
  | 22, hok, hs => exact (z_nt22 hs).elim
  | 23, hok, hs => exact (z_nt23 hs).elim
  | 24, hok, hs => exact (z_nt24 hs).elim
  | 25, hok, hs => exact (z_nt25 hs).elim
  | 26, hok, hs => exact (z_nt26 hs).elim
  | 27, hok, hs => exact (z_nt27 hs).elim
  | 28, hok, hs => exact (z_nt28 hs).elim
  | 29, hok, hs =>
    simp only [z_ex] at hs
    split at hs
    · cases hs
      refine ⟨b, ix, kw, b, hok, rfl, ?_⟩
      simp only [z_okb, Bool.and_eq_true, decide_eq_true_eq] at hok
      exact ⟨hok.2.1, hok.1.2⟩
    · cases hs
  | 30, hok, hs => exact (z_nt30 hs).elim
  | 31, hok, hs => exact (z_nt31 hs).elim
  | 32, hok, hs => exact (z_nt32 hs).elim
  | 33, hok, hs => exact (z_nt33 hs).elim
  | 34, hok, hs => exact (z_nt34 hs).elim
  | 35, hok, hs => exact (z_nt35 hs).elim
  | 36, hok, hs => exact (z_nt36 hs).elim
  | 37, hok, hs => exact (z_nt37 hs).elim
  | 38, hok, hs => exact (z_nt38 hs).elim
  | 39, hok, hs => exact (z_nt39 hs).elim
  | n + 40, hok, hs => cases hok
/-! soundness: by induction on the steps -/
theorem z_take_split {st : List zV} {n : Nat} {v : zV} {r : List zV} (h : st.drop n = v :: r) : st = st.take n ++ v :: r ∧ st.drop (n + 1) = r ∧ st.take (n + 1) = st.take n ++ [v] ∧ (st.take n).length = n := by
  have hl : n < st.length := by
    rcases Nat.lt_or_ge n st.length with h1 | h1
    · exact h1
    · rw [List.drop_eq_nil_of_le h1] at h; cases h
  refine ⟨by rw [← h]; exact (List.take_append_drop n st).symm, ?_, ?_, by simp; omega⟩
  · rw [← List.drop_drop, h]; rfl
  · rw [List.take_succ_eq_append_getElem hl]
    have : st[n] = v := by
      have h2 := List.drop_eq_getElem_cons hl
      rw [h] at h2
      exact (List.cons.inj h2).1.symm
    rw [this]
theorem z_opt_list (q : Nat → Nat) (r : Option zV) (rest : List zV) : (r.map (z_cv q)).toList ++ rest.map (z_cv q) = (r.toList ++ rest).map (z_cv q) := by
  cases r <;> simp
section ZMN
variable {l : Launch} {dC : Nat → ClassId} {dI : Nat → Nat → Nat} {cI cZ cJ : ClassId} {q : Nat → Nat} {A : Nat → Prop} {L : Nat} {X : Nat → Int32}
/-- what a virtual call takes from the stack -/
theorem z_invV {pc a : Nat} {b : Int} {lv : List (Option zV)} {st : List zV} {S : zS} {k : Nat} {as : List zV} {c2 : zCfg} (h : (match st.drop (z_na a) with
    | .inr (.inr k) :: _ => match z_lay[k]? with
      | some (.inr (ci, _)) => if ci = b.toNat then z_call a (z_na a + 1) pc lv st S else none
      | _ => none
    | _ => none) = some (.inr (.inl (k, as, c2)))) : ∃ (j : Nat) (fk : List (Option Nat)) (rest args : List zV), k = a ∧ as = .inr (.inr j) :: args ∧ st = args.reverse ++ .inr (.inr j) :: rest ∧ c2 = (pc + 1, lv, rest, S) ∧ z_lay[j]? = some (.inr (b.toNat, fk)) ∧ z_cats rest ≤ 8 ∧ args.length = z_na a ∧ as.all (fun v => z_cat v == 1) = true := by
  split at h
  · next j r hd =>
    split at h
    · next ci fk hlay =>
      split at h
      · next hci =>
        subst hci
        obtain ⟨e1, e2, e3, e4⟩ := z_take_split hd
        unfold z_call at h
        split at h
        · next hc =>
          rw [e2, e3] at hc
          rw [e2, e3] at h
          cases h
          refine ⟨j, fk, r, (st.take (z_na a)).reverse, rfl, by simp, by rw [List.reverse_reverse]; exact e1, rfl, hlay, hc.1, by rw [List.length_reverse]; exact e4, ?_⟩
          rw [List.all_reverse]; exact hc.2.2
        · cases h
      · cases h
    · cases h
  · cases h
theorem z_invS {pc a n : Nat} {lv : List (Option zV)} {st : List zV} {S : zS} {k : Nat} {as : List zV} {c2 : zCfg} (h : z_call a n pc lv st S = some (.inr (.inl (k, as, c2)))) : ∃ (rest : List zV), k = a ∧ st = as.reverse ++ rest ∧ c2 = (pc + 1, lv, rest, S) ∧ z_cats rest ≤ 8 ∧ as.length = n ∧ as.all (fun v => z_cat v == 1) = true := by
  unfold z_call at h
  split at h
  · next hc =>
    cases h
    refine ⟨st.drop n, rfl, by rw [List.reverse_reverse]; exact (List.take_append_drop n st).symm, rfl, hc.1, ?_, ?_⟩
    · rw [List.length_reverse, List.length_take]; omega
    · rw [List.all_reverse]; exact hc.2.2
  · cases h
/-- what holds of a run of n steps at the most -/
def z_Ok (l : Launch) (dC : Nat → ClassId) (dI : Nat → Nat → Nat) (cI cZ cJ : ClassId) (q : Nat → Nat) (A : Nat → Prop) (L : Nat) (X : Nat → Int32) (n : Nat) : Prop := ∀ (mi : Nat) (cf : zCfg) (o : zRes), z_run L n mi cf = some o → (∀ E, o.1 = .inr E → E < 3) ∧ z_BC l dC dI cI cZ cJ q A L X mi cf o
variable {p : Program} {e : Env} {R : Room} {s : State} {m : MethodId} {args : Array Value} {below : List Frame} {meth : Method} {c : Code} {Q : State → Prop} {mi : Nat} {cells slots : Nat}
/-- behind any call: the callee's run, then what is left -/
theorem z_aft_inv {n : Nat} {c2 : zCfg} {r1 : Option zRes} {o : zRes} (h : z_aft mi (z_run L n) c2 r1 = some o) : ∃ o1, r1 = some o1 ∧ ((∃ r o2, o1.1 = .inl r ∧ z_run L n mi (c2.1, c2.2.1, r.toList ++ c2.2.2.1, o1.2.1) = some o2 ∧ o = (o2.1, o2.2.1, o1.2.2 + o2.2.2)) ∨ (∃ E v, o1.1 = .inr E ∧ z_hd (z_th mi) E = some v ∧ o = (.inl (some (.inl v)), o1.2.1, o1.2.2)) ∨ (∃ E, o1.1 = .inr E ∧ (z_th mi).isEmpty = true ∧ o = (.inr E, o1.2.1, o1.2.2))) := by
  rcases r1 with _ | ⟨r | E, S1, e1⟩
  · cases h
  · refine ⟨_, rfl, Or.inl ?_⟩
    simp only [z_aft] at h
    rcases h2 : z_run L n mi (c2.1, c2.2.1, r.toList ++ c2.2.2.1, S1) with _ | ⟨o2, S2, e2⟩
    · rw [h2] at h; cases h
    · rw [h2] at h; cases h; exact ⟨r, _, rfl, h2, rfl⟩
  · refine ⟨_, rfl, Or.inr ?_⟩
    simp only [z_aft] at h
    rcases h2 : z_hd (z_th mi) E with _ | v
    · rw [h2] at h
      dsimp only at h
      split at h
      · next ht => cases h; exact Or.inr ⟨E, rfl, ht, rfl⟩
      · cases h
    · rw [h2] at h; cases h; exact Or.inl ⟨E, v, rfl, h2, rfl⟩

set_option maxHeartbeats 4000000 in
theorem z_callstep {n pc : Nat} {lv : List (Option zV)} {st : List zV} {S : zS} {x : zI} {k : Nat} {as : List zV} {c2 : zCfg} {o o1 : zRes} {C0 S0 : Nat} (hG : z_Good) (hA : z_Ap q A) (htr : l.stackTraces = false) (hok : z_okb mi pc x = true) (hs : z_ex L pc lv st S x.1 x.2.1 x.2.2.1 = some (.inr (.inl (k, as, c2))))
    (hcase : (∃ r o2, o1.1 = .inl r ∧ z_run L n mi (c2.1, c2.2.1, r.toList ++ c2.2.2.1, o1.2.1) = some o2 ∧ o = (o2.1, o2.2.1, o1.2.2 + o2.2.2)) ∨ (∃ E v, o1.1 = .inr E ∧ z_hd (z_th mi) E = some v ∧ o = (.inl (some (.inl v)), o1.2.1, o1.2.2)) ∨ (∃ E, o1.1 = .inr E ∧ (z_th mi).isEmpty = true ∧ o = (.inr E, o1.2.1, o1.2.2)))
    (j1 : ∀ E, o1.1 = .inr E → E < 3) (j2 : z_BC l dC dI cI cZ cJ q A L X k (0, z_ent k as, [], c2.2.2.2) o1) (ih : z_Ok l dC dI cI cZ cJ q A L X n) (hC : z_Cx l mi p R s m args c) (hF : z_Fx dC dI cI cZ cJ q A L X s s.heap) (htab : ¬ (z_tb mi).isEmpty = true → c.exceptionTable.toList = tableOf (z_tb mi)) (hc1 : cells + o.2.2 ≤ C0) (hc2 : C0 ≤ R.cells) (hs1 : slots + 6 * o.2.2 ≤ S0) (hs2 : S0 ≤ R.slots) (hE : z_End dC dI cI cZ cJ q A X p l e R s m args below meth c Q mi C0 S0 o) :
    ∀ H locs ls, z_Rl dC dI cI cZ cJ q A X s mi (pc, lv, st, S) H locs ls → W p l e R s m args below meth c H locs cells slots Q (F0 m (z_pc mi pc) ls (st.map (z_cv q))) := by
  intro H locs ls hR
  obtain ⟨hP, hX, hS, hl, hlen⟩ := hR
  dsimp only at hP hX hS hl hlen
  obtain ⟨op, a, b, ix, kw⟩ := x
  dsimp only at hs
  match op, hok, hs with
  | 0, hok, hs => exact (z_nc0 hs).elim
  | 1, hok, hs => exact (z_nc1 hs).elim
  | 2, hok, hs => exact (z_nc2 hs).elim
  | 3, hok, hs => exact (z_nc3 hs).elim
  | 4, hok, hs => exact (z_nc4 hs).elim
  | 5, hok, hs => exact (z_nc5 hs).elim
  | 6, hok, hs => exact (z_nc6 hs).elim
  | 7, hok, hs => exact (z_nc7 hs).elim
  | 8, hok, hs => exact (z_nc8 hs).elim
  | 9, hok, hs => exact (z_nc9 hs).elim
  | 10, hok, hs => exact (z_nc10 hs).elim
  | 11, hok, hs => exact (z_nc11 hs).elim
  | 12, hok, hs => exact (z_nc12 hs).elim
  | 13, hok, hs => exact (z_nc13 hs).elim
  | 14, hok, hs => exact (z_nc14 hs).elim
  | 15, hok, hs => exact (z_nc15 hs).elim
  | 16, hok, hs => exact (z_nc16 hs).elim
  | 17, hok, hs => exact (z_nc17 hs).elim
  | 18, hok, hs => exact (z_nc18 hs).elim
  | 19, hok, hs => exact (z_nc19 hs).elim
  | 20, hok, hs => exact (z_nc20 hs).elim
  | 21, hok, hs =>
    simp only [z_ex] at hs
    obtain ⟨j, fk, rest, ag, rfl, rfl, rfl, rfl, hlay, hcat, hna, hall⟩ := z_invV hs
    simp only [z_okb, z_d, Bool.and_eq_true, decide_eq_true_eq, Bool.not_eq_true'] at hok
    obtain ⟨⟨⟨⟨⟨⟨⟨⟨hd, hn⟩, hw⟩, hcal⟩, hst⟩, hth⟩, htb⟩, htba⟩, hcl⟩ := hok
    have hlt9 : k < 338 := by
      have h9 := hcal
      simp only [z_cal, Bool.and_eq_true, decide_eq_true_eq] at h9
      exact h9.1.1
    obtain ⟨hmok, hpc0⟩ := hG.2 k hlt9
    have hml9 := (z_mok_un hmok).2.2.2.2.2.2.2.2
    dsimp only at hcase j2
    have hasl : (.inr (.inr j) :: ag : List zV).length ≤ z_ml k := by rw [List.length_cons, hna]; omega
    have hstk : (ag.reverse ++ .inr (.inr j) :: rest).map (z_cv q) = (ag.map (z_cv q)).reverse ++ .ref (q j) :: rest.map (z_cv q) := by rw [List.map_append, List.map_reverse]; rfl
    rw [hstk]
    obtain ⟨q1, S1, e1⟩ := o1
    dsimp only at hcase j1 j2
    rcases hcase with ⟨r, o2, a1, a2, a3⟩ | ⟨E, v, a1, a2, a3⟩ | ⟨E, a1, a2, a3⟩
    · subst a1
      subst a3
      have hM := z_toMet (n := e1) j2 htr hA hmok hall hasl hpc0
      have hc19 : cells + (e1 + o2.2.2) ≤ C0 := hc1
      have hs19 : slots + 6 * (e1 + o2.2.2) ≤ S0 := hs1
      refine z_back (z_cV (pc := z_pc mi pc) (ls := ls) (cells := cells) (slots := slots) hC hF hA hd (z_w_in hw) hlay hcl hcal hmok htba hst hna hcat hM hP hX hS hl (by omega) (by omega)) hS (fun H1 locs1 hP1 hX1 hS1 => ?_)
      have h9 := (ih mi _ o2 a2).2 p e R s m args below meth c Q C0 S0 (cells + e1) (slots + 6 * e1) hC hF htab (by omega) hc2 (by omega) hs2 hE H1 locs1 ls ⟨hP1, hX1, hS1, hl, hlen⟩
      dsimp only at h9
      rw [hn] at h9
      rw [z_opt_list]
      exact h9
    · exfalso
      rw [List.isEmpty_iff.mp hth] at a2
      cases a2
    · subst a1
      subst a3
      have hM := z_toMetX (n := e1) (j1 E rfl) j2 htr hA hmok hall hasl hpc0
      have hc19 : cells + e1 ≤ C0 := hc1
      have hs19 : slots + 6 * e1 ≤ S0 := hs1
      refine z_backX (a := #[]) (z_cVX (pc := z_pc mi pc) (ls := ls) (cells := cells) (slots := slots) hC hF hA hd (z_w_in hw) hlay hcl hcal hmok htba hst hna hcat hM hP hX hS hl (by omega) (by omega)) hS (fun H1 locs1 q9 ce hP1 hX1 hS1 hce hcv hcl9 => ?_)
      exact (hE htb).1 _ ls _ H1 locs1 (cells + e1) (slots + 6 * e1) q9 ce hP1 hX1 hS1 hce hcv hcl9 hc19 hs19
  | 22, hok, hs =>
    simp only [z_ex] at hs
    obtain ⟨rest, rfl, rfl, rfl, hcat, hna, hall⟩ := z_invS hs
    simp only [z_okb, z_d, Bool.and_eq_true, decide_eq_true_eq, Bool.not_eq_true'] at hok
    obtain ⟨⟨⟨⟨⟨⟨⟨hd, hn⟩, hw⟩, hcal⟩, hst⟩, hth⟩, htb⟩, htba⟩ := hok
    have hlt9 : k < 338 := by
      have h9 := hcal
      simp only [z_cal, Bool.and_eq_true, decide_eq_true_eq] at h9
      exact h9.1.1
    obtain ⟨hmok, hpc0⟩ := hG.2 k hlt9
    have hml9 := (z_mok_un hmok).2.2.2.2.2.2.2.2
    dsimp only at hcase j2
    have hasl : as.length ≤ z_ml k := by rw [hna]; omega
    have hstk : (as.reverse ++ rest).map (z_cv q) = (as.map (z_cv q)).reverse ++ rest.map (z_cv q) := by rw [List.map_append, List.map_reverse]
    rw [hstk]
    obtain ⟨q1, S1, e1⟩ := o1
    dsimp only at hcase j1 j2
    rcases hcase with ⟨r, o2, a1, a2, a3⟩ | ⟨E, v, a1, a2, a3⟩ | ⟨E, a1, a2, a3⟩
    · subst a1
      subst a3
      have hM := z_toMet (n := e1) j2 htr hA hmok hall hasl hpc0
      have hc19 : cells + (e1 + o2.2.2) ≤ C0 := hc1
      have hs19 : slots + 6 * (e1 + o2.2.2) ≤ S0 := hs1
      refine z_back (z_cS (pc := z_pc mi pc) (ls := ls) (cells := cells) (slots := slots) hC hF hA hd (z_w_in hw) hcal hmok htba hst hna hcat hM hP hX hS hl (by omega) (by omega)) hS (fun H1 locs1 hP1 hX1 hS1 => ?_)
      have h9 := (ih mi _ o2 a2).2 p e R s m args below meth c Q C0 S0 (cells + e1) (slots + 6 * e1) hC hF htab (by omega) hc2 (by omega) hs2 hE H1 locs1 ls ⟨hP1, hX1, hS1, hl, hlen⟩
      dsimp only at h9
      rw [hn] at h9
      rw [z_opt_list]
      exact h9
    · exfalso
      rw [List.isEmpty_iff.mp hth] at a2
      cases a2
    · subst a1
      subst a3
      have hM := z_toMetX (n := e1) (j1 E rfl) j2 htr hA hmok hall hasl hpc0
      have hc19 : cells + e1 ≤ C0 := hc1
      have hs19 : slots + 6 * e1 ≤ S0 := hs1
      refine z_backX (a := #[]) (z_cSX (pc := z_pc mi pc) (ls := ls) (cells := cells) (slots := slots) hC hF hA hd (z_w_in hw) hcal hmok htba hst hna hcat hM hP hX hS hl (by omega) (by omega)) hS (fun H1 locs1 q9 ce hP1 hX1 hS1 hce hcv hcl9 => ?_)
      exact (hE htb).1 _ ls _ H1 locs1 (cells + e1) (slots + 6 * e1) q9 ce hP1 hX1 hS1 hce hcv hcl9 hc19 hs19
  | 23, hok, hs => exact (z_nc23 hs).elim
  | 24, hok, hs => exact (z_nc24 hs).elim
  | 25, hok, hs => exact (z_nc25 hs).elim
  | 26, hok, hs => exact (z_nc26 hs).elim
  | 27, hok, hs => exact (z_nc27 hs).elim
  | 28, hok, hs => exact (z_nc28 hs).elim
  | 29, hok, hs => exact (z_nc29 hs).elim
  | 30, hok, hs => exact (z_nc30 hs).elim
  | 31, hok, hs => exact (z_nc31 hs).elim
  | 32, hok, hs =>
    simp only [z_ex] at hs
    obtain ⟨j, fk, rest, ag, rfl, rfl, rfl, rfl, hlay, hcat, hna, hall⟩ := z_invV hs
    simp only [z_okb, z_d, Bool.and_eq_true, decide_eq_true_eq, Bool.not_eq_true'] at hok
    obtain ⟨⟨⟨⟨⟨⟨⟨⟨hd, hn⟩, hw⟩, hcal⟩, hst⟩, htba⟩, hcl⟩, hthn⟩, hck⟩ := hok
    have hlt9 : k < 338 := by
      have h9 := hcal
      simp only [z_cal, Bool.and_eq_true, decide_eq_true_eq] at h9
      exact h9.1.1
    obtain ⟨hmok, hpc0⟩ := hG.2 k hlt9
    have hml9 := (z_mok_un hmok).2.2.2.2.2.2.2.2
    dsimp only at hcase j2
    have hasl : (.inr (.inr j) :: ag : List zV).length ≤ z_ml k := by rw [List.length_cons, hna]; omega
    have hstk : (ag.reverse ++ .inr (.inr j) :: rest).map (z_cv q) = (ag.map (z_cv q)).reverse ++ .ref (q j) :: rest.map (z_cv q) := by rw [List.map_append, List.map_reverse]; rfl
    rw [hstk]
    obtain ⟨q1, S1, e1⟩ := o1
    dsimp only at hcase j1 j2
    rcases hcase with ⟨r, o2, a1, a2, a3⟩ | ⟨E, v, a1, a2, a3⟩ | ⟨E, a1, a2, a3⟩
    · subst a1
      subst a3
      have hM := z_toMet (n := e1) j2 htr hA hmok hall hasl hpc0
      have hc19 : cells + (e1 + o2.2.2) ≤ C0 := hc1
      have hs19 : slots + 6 * (e1 + o2.2.2) ≤ S0 := hs1
      refine z_back (z_cV (pc := z_pc mi pc) (ls := ls) (cells := cells) (slots := slots) hC hF hA hd (z_w_in hw) hlay hcl hcal hmok htba hst hna hcat hM hP hX hS hl (by omega) (by omega)) hS (fun H1 locs1 hP1 hX1 hS1 => ?_)
      have h9 := (ih mi _ o2 a2).2 p e R s m args below meth c Q C0 S0 (cells + e1) (slots + 6 * e1) hC hF htab (by omega) hc2 (by omega) hs2 hE H1 locs1 ls ⟨hP1, hX1, hS1, hl, hlen⟩
      dsimp only at h9
      rw [hn] at h9
      rw [z_opt_list]
      exact h9
    · subst a1
      subst a3
      have hM := z_toMetX (n := e1) (j1 E rfl) j2 htr hA hmok hall hasl hpc0
      have hc19 : cells + e1 ≤ C0 := hc1
      have hs19 : slots + 6 * e1 ≤ S0 := hs1
      refine z_backX (a := #[]) (z_cVX (pc := z_pc mi pc) (ls := ls) (cells := cells) (slots := slots) hC hF hA hd (z_w_in hw) hlay hcl hcal hmok htba hst hna hcat hM hP hX hS hl (by omega) (by omega)) hS (fun H1 locs1 q9 ce hP1 hX1 hS1 hce hcv hcl9 => ?_)
      have hmne : ¬ (z_tb mi).isEmpty = true := by
        intro hb
        simp only [z_hck, Bool.and_eq_true, decide_eq_true_eq] at hck
        have hmap := hck.1.1.1.1.1
        rw [List.isEmpty_iff.mp hb] at hmap
        have h0 : z_th mi = [] := List.map_eq_nil_iff.mp hmap.symm
        rw [h0] at a2; cases a2
      exact z_caught hC hF (htab hmne) hck a2 hl hce hcv hcl9 (fun pc9 ls9 hret => hE pc9 ls9 H1 locs1 (cells + e1) (slots + 6 * e1) hret hP1 hX1 hS1 hc19 hs19)
    · exfalso
      rw [a2] at hthn
      cases hthn
  | 33, hok, hs => exact (z_nc33 hs).elim
  | 34, hok, hs => exact (z_nc34 hs).elim
  | 35, hok, hs =>
    simp only [z_ex] at hs
    obtain ⟨rest, rfl, rfl, rfl, hcat, hna, hall⟩ := z_invS hs
    simp only [z_okb, z_d, Bool.and_eq_true, decide_eq_true_eq, Bool.not_eq_true'] at hok
    obtain ⟨⟨⟨⟨⟨⟨⟨hd, hn⟩, hw⟩, hcal⟩, hst⟩, hth⟩, htb⟩, htba⟩ := hok
    have htba : ¬ (z_tb k).isEmpty = true := by rw [htba]; decide
    have hlt9 : k < 338 := by
      have h9 := hcal
      simp only [z_cal, Bool.and_eq_true, decide_eq_true_eq] at h9
      exact h9.1.1
    obtain ⟨hmok, hpc0⟩ := hG.2 k hlt9
    have hml9 := (z_mok_un hmok).2.2.2.2.2.2.2.2
    dsimp only at hcase j2
    have hasl : as.length ≤ z_ml k := by rw [hna]; omega
    have hstk : (as.reverse ++ rest).map (z_cv q) = (as.map (z_cv q)).reverse ++ rest.map (z_cv q) := by rw [List.map_append, List.map_reverse]
    rw [hstk]
    obtain ⟨q1, S1, e1⟩ := o1
    dsimp only at hcase j1 j2
    rcases hcase with ⟨r, o2, a1, a2, a3⟩ | ⟨E, v, a1, a2, a3⟩ | ⟨E, a1, a2, a3⟩
    · subst a1
      subst a3
      have hM := z_toMet (n := e1) j2 htr hA hmok hall hasl hpc0
      have hc19 : cells + (e1 + o2.2.2) ≤ C0 := hc1
      have hs19 : slots + 6 * (e1 + o2.2.2) ≤ S0 := hs1
      refine z_back (z_cT (pc := z_pc mi pc) (ls := ls) (cells := cells) (slots := slots) hC hF hA hd (z_w_in hw) hcal hmok htba hst hna hcat hM hP hX hS hl (by omega) (by omega)) hS (fun H1 locs1 hP1 hX1 hS1 => ?_)
      have h9 := (ih mi _ o2 a2).2 p e R s m args below meth c Q C0 S0 (cells + e1) (slots + 6 * e1) hC hF htab (by omega) hc2 (by omega) hs2 hE H1 locs1 ls ⟨hP1, hX1, hS1, hl, hlen⟩
      dsimp only at h9
      rw [hn] at h9
      rw [z_opt_list]
      exact h9
    · exfalso
      rw [List.isEmpty_iff.mp hth] at a2
      cases a2
    · subst a1
      subst a3
      have hM := z_toMetX (n := e1) (j1 E rfl) j2 htr hA hmok hall hasl hpc0
      have hc19 : cells + e1 ≤ C0 := hc1
      have hs19 : slots + 6 * e1 ≤ S0 := hs1
      refine z_backX (a := #[]) (z_cTX (pc := z_pc mi pc) (ls := ls) (cells := cells) (slots := slots) hC hF hA hd (z_w_in hw) hcal hmok htba hst hna hcat hM hP hX hS hl (by omega) (by omega)) hS (fun H1 locs1 q9 ce hP1 hX1 hS1 hce hcv hcl9 => ?_)
      exact (hE htb).1 _ ls _ H1 locs1 (cells + e1) (slots + 6 * e1) q9 ce hP1 hX1 hS1 hce hcv hcl9 hc19 hs19
  | 36, hok, hs => exact (z_nc36 hs).elim
  | 37, hok, hs => exact (z_nc37 hs).elim
  | 38, hok, hs => exact (z_nc38 hs).elim
  | 39, hok, hs => exact (z_nc39 hs).elim
  | n + 40, hok, hs => cases hok
set_option maxHeartbeats 4000000 in
theorem z_sound (hG : z_Good) (hA : z_Ap q A) (htr : l.stackTraces = false) : ∀ n, z_Ok l dC dI cI cZ cJ q A L X n := by
  intro n
  induction n with
  | zero => intro mi cf o h; cases h
  | succ n ih =>
    intro mi cf o h
    obtain ⟨pc, lv, st, S⟩ := cf
    rw [z_run_succ] at h
    unfold z_step at h
    dsimp only at h
    rcases hins : z_ins mi pc with _ | x
    · rw [hins] at h; cases h
    rw [hins] at h
    dsimp only at h
    have hok : z_okb mi pc x = true := by
      rcases hG.1 mi pc x hins with h9 | h9
      · rw [h9] at h; cases h
      · exact h9
    rcases hs : z_ex L pc lv st S x.1 x.2.1 x.2.2.1 with _ | (c2 | (⟨k, as, c2⟩ | (r | E)))
    · rw [hs] at h; cases h
    · -- the next place
      rw [hs] at h
      obtain ⟨i1, i2⟩ := ih mi c2 o h
      refine ⟨i1, ?_⟩
      intro p e R s m args below meth c Q C0 S0 cells slots hC hF htab hc1 hc2 hs1 hs2 hE
      exact z_next hG hC hF hA hok hs (by omega) (by omega) (i2 p e R s m args below meth c Q C0 S0 cells slots hC hF htab hc1 hc2 hs1 hs2 hE)
    · -- a call
      rw [hs] at h
      replace h : z_aft mi (z_run L n) c2 (z_run L n k (0, z_ent k as, [], c2.2.2.2)) = some o := h
      obtain ⟨o1, hr1, hcase⟩ := z_aft_inv h
      obtain ⟨j1, j2⟩ := ih k _ o1 hr1
      have hlt : ∀ E, o.1 = .inr E → E < 3 := by
        intro E hE
        rcases hcase with ⟨r, o2, a1, a2, a3⟩ | ⟨E2, v, a1, a2, a3⟩ | ⟨E2, a1, a2, a3⟩
        · rw [a3] at hE; exact (ih _ _ _ a2).1 E hE
        · rw [a3] at hE; cases hE
        · rw [a3] at hE; cases hE; exact j1 _ a1
      refine ⟨hlt, ?_⟩
      intro p e R s m args below meth c Q C0 S0 cells slots hC hF htab hc1 hc2 hs1 hs2 hE H locs ls hR
      exact z_callstep hG hA htr hok hs hcase j1 j2 ih hC hF htab hc1 hc2 hs1 hs2 hE H locs ls hR
    · -- an answer
      rw [hs] at h
      cases h
      refine ⟨fun E hE => (by cases hE), ?_⟩
      intro p e R s m args below meth c Q C0 S0 cells slots hC hF htab hc1 hc2 hs1 hs2 hE H locs ls hR
      obtain ⟨hP, hX, hS, hl, hlen⟩ := hR
      obtain ⟨g1, g2⟩ := z_ret_inv hok hs
      have h9 := hE (z_pc mi pc) ls H locs cells slots g1 hP hX hS (by show cells ≤ C0; have : cells + 0 ≤ C0 := hc1; omega) (by show slots ≤ S0; have : slots + 6 * 0 ≤ S0 := hs1; omega)
      dsimp only
      rw [g2]
      cases r <;> exact h9
    · -- a throw
      rw [hs] at h
      cases h
      have hx := z_thr_inv hok hs
      obtain ⟨b, ix, kw, v, hok9, hst, hE3, htb9⟩ := hx
      refine ⟨fun E2 hE => (by cases hE; exact hE3), ?_⟩
      intro p e R s m args below meth c Q C0 S0 cells slots hC hF htab hc1 hc2 hs1 hs2 hE H locs ls hR
      obtain ⟨hP, hX, hS, hl, hlen⟩ := hR
      subst hst
      exact (hE htb9).2 pc ix kw v ls H locs cells slots hok9 hP hX hS hl.1 (by show cells + 1 ≤ C0; exact hc1) (by show slots + 6 ≤ S0; have : slots + 6 * 1 ≤ S0 := hs1; omega)
end ZMN
