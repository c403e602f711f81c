/-! one call of the law's loop: from what held behind n calls to what holds behind n + 1 -/
def zlv (x4 : Int32) (u5 u6 : Option zV) : List (Option zV) := [some (.inr (.inr 1000)), some (.inr (.inr 0)), some (.inr (.inr 13)), some (.inr (.inr 148)), some (.inl x4), u5, u6]
def zOne (L n pc : Nat) (x4 : Int32) (u5 u6 : Option zV) (S : zS) : Prop := ∃ v5 v6 S', zq L 372 pc (zlv x4 u5 u6) [] S (.inl (13, zlv (x4 + 9) v5 v6, [], S')) ∧ zR (n + 1) S' S' ∧ S' 1000 = S 1000
theorem zyl0 {L n : Nat} {x4 : Int32} (u5 u6 : Option zV) {S : zS} (hn : n < 512) (h : zR n S S) (hx1 : zx L (x4 + 1)) (hx2 : zx L (x4 + 2)) (hx3 : zx L (x4 + 3)) (hx4 : zx L (x4 + 4)) (hx5 : zx L (x4 + 5)) (hx6 : zx L (x4 + 6)) (hx7 : zx L (x4 + 7)) (hx8 : zx L (x4 + 8)) : zOne L n 25 x4 u5 u6 S := by
  obtain ⟨q1, hq1⟩ : ∃ q, S 1000 (x4 + 1).toNatClampNeg = q := ⟨_, rfl⟩
  obtain ⟨q2, hq2⟩ : ∃ q, S 1000 (x4 + 2).toNatClampNeg = q := ⟨_, rfl⟩
  obtain ⟨q3, hq3⟩ : ∃ q, S 1000 (x4 + 3).toNatClampNeg = q := ⟨_, rfl⟩
  have ha := zya0 q1 q2 q3 h
  have e := zye0 x4 u5 u6 q1 q2 q3 (zyr0 q1 q2 q3 hn ha)
  have c := zyc0 L x4 u5 u6 S q1 q2 q3 hx1 hq1 hx2 hq2 hx3 hq3 (zg0_g0 hn h q1 q2 q3) (zg0_g1 hn h q1 q2 q3) (zg0_mg0 hn ha q1 q2 q3) (zg0_mg1 hn ha q1 q2 q3)
  rw [e] at c
  exact ⟨_, _, _, c, zyz0 q1 q2 q3 h (fun hT => zyt0_Seal q1 q2 q3 hn hT), (zpZ0 q1 q2 q3).1 1000 rfl⟩
theorem zyl1 {L n : Nat} {x4 : Int32} (u5 u6 : Option zV) {S : zS} (hn : n < 512) (h : zR n S S) (hx1 : zx L (x4 + 1)) (hx2 : zx L (x4 + 2)) (hx3 : zx L (x4 + 3)) (hx4 : zx L (x4 + 4)) (hx5 : zx L (x4 + 5)) (hx6 : zx L (x4 + 6)) (hx7 : zx L (x4 + 7)) (hx8 : zx L (x4 + 8)) : zOne L n 67 x4 u5 u6 S := by
  obtain ⟨q1, hq1⟩ : ∃ q, S 1000 (x4 + 1).toNatClampNeg = q := ⟨_, rfl⟩
  have ha := zya1 q1 h
  have e := zye1 x4 u5 u6 q1 (zyr1 q1 hn ha) rfl
  have c := zyc1 L x4 u5 u6 S q1 hx1 hq1 (zg1_g0 hn h q1) (zg1_mg0 hn ha q1)
  rw [e] at c
  exact ⟨_, _, _, c, zyz1 q1 h, (zpZ1 q1).1 1000 rfl⟩
theorem zyl2 {L n : Nat} {x4 : Int32} (u5 u6 : Option zV) {S : zS} (hn : n < 512) (h : zR n S S) (hx1 : zx L (x4 + 1)) (hx2 : zx L (x4 + 2)) (hx3 : zx L (x4 + 3)) (hx4 : zx L (x4 + 4)) (hx5 : zx L (x4 + 5)) (hx6 : zx L (x4 + 6)) (hx7 : zx L (x4 + 7)) (hx8 : zx L (x4 + 8)) : zOne L n 102 x4 u5 u6 S := by
  obtain ⟨q1, hq1⟩ : ∃ q, S 1000 (x4 + 1).toNatClampNeg = q := ⟨_, rfl⟩
  obtain ⟨q2, hq2⟩ : ∃ q, S 1000 (x4 + 2).toNatClampNeg = q := ⟨_, rfl⟩
  have ha := zya2 q1 q2 h
  have e := zye2 x4 u5 u6 q1 q2 (zyr2 q1 q2 hn ha) rfl
  have c := zyc2 L x4 u5 u6 S q1 q2 hx1 hq1 hx2 hq2 (zg2_g0 hn h q1 q2) (zg2_g1 hn h q1 q2) (zg2_g2 hn h q1 q2) (zg2_mg0 hn ha q1 q2)
  rw [e] at c
  exact ⟨_, _, _, c, zyz2 q1 q2 h (fun hT => zyt2_Seal q1 q2 hn hT), (zpZ2 q1 q2).1 1000 rfl⟩
theorem zyl3 {L n : Nat} {x4 : Int32} (u5 u6 : Option zV) {S : zS} (hn : n < 512) (h : zR n S S) (hx1 : zx L (x4 + 1)) (hx2 : zx L (x4 + 2)) (hx3 : zx L (x4 + 3)) (hx4 : zx L (x4 + 4)) (hx5 : zx L (x4 + 5)) (hx6 : zx L (x4 + 6)) (hx7 : zx L (x4 + 7)) (hx8 : zx L (x4 + 8)) : zOne L n 147 x4 u5 u6 S := by
  have ha := zya3  h
  have e := zye3 x4 u5 u6 (zyr3  hn ha)
  have c := zyc3 L x4 u5 u6 S (zg3_g0 hn h ) (zg3_mg0 hn ha )
  rw [e] at c
  exact ⟨_, _, _, c, zyz3 h (fun hT => zyt3_Seal  hn hT), (zpZ3 ).1 1000 rfl⟩
theorem zyl4 {L n : Nat} {x4 : Int32} (u5 u6 : Option zV) {S : zS} (hn : n < 512) (h : zR n S S) (hx1 : zx L (x4 + 1)) (hx2 : zx L (x4 + 2)) (hx3 : zx L (x4 + 3)) (hx4 : zx L (x4 + 4)) (hx5 : zx L (x4 + 5)) (hx6 : zx L (x4 + 6)) (hx7 : zx L (x4 + 7)) (hx8 : zx L (x4 + 8)) : zOne L n 154 x4 u5 u6 S := by
  have ha := zya4  h
  have e := zye4 x4 u5 u6 (zyr4  hn ha)
  have c := zyc4 L x4 u5 u6 S (zg4_g0 hn h ) (zg4_mg0 hn ha )
  rw [e] at c
  exact ⟨_, _, _, c, zyz4 h, (zpZ4 ).1 1000 rfl⟩
theorem zyl5 {L n : Nat} {x4 : Int32} (u5 u6 : Option zV) {S : zS} (hn : n < 512) (h : zR n S S) (hx1 : zx L (x4 + 1)) (hx2 : zx L (x4 + 2)) (hx3 : zx L (x4 + 3)) (hx4 : zx L (x4 + 4)) (hx5 : zx L (x4 + 5)) (hx6 : zx L (x4 + 6)) (hx7 : zx L (x4 + 7)) (hx8 : zx L (x4 + 8)) : zOne L n 161 x4 u5 u6 S := by
  obtain ⟨q1, hq1⟩ : ∃ q, S 1000 (x4 + 1).toNatClampNeg = q := ⟨_, rfl⟩
  obtain ⟨q2, hq2⟩ : ∃ q, S 1000 (x4 + 2).toNatClampNeg = q := ⟨_, rfl⟩
  obtain ⟨q3, hq3⟩ : ∃ q, S 1000 (x4 + 3).toNatClampNeg = q := ⟨_, rfl⟩
  have ha := zya5 q1 q2 q3 h
  have e := zye5 x4 u5 u6 q1 q2 q3 (zyr5 q1 q2 q3 hn ha)
  have c := zyc5 L x4 u5 u6 S q1 q2 q3 hx1 hq1 hx2 hq2 hx3 hq3 (zg5_g0 hn h q1 q2 q3)
  rw [e] at c
  exact ⟨_, _, _, c, zyz5 q1 q2 q3 h (fun hT => zyt5_Seal q1 q2 q3 hn hT), (zpZ5 q1 q2 q3).1 1000 rfl⟩
theorem zyl6 {L n : Nat} {x4 : Int32} (u5 u6 : Option zV) {S : zS} (hn : n < 512) (h : zR n S S) (hx1 : zx L (x4 + 1)) (hx2 : zx L (x4 + 2)) (hx3 : zx L (x4 + 3)) (hx4 : zx L (x4 + 4)) (hx5 : zx L (x4 + 5)) (hx6 : zx L (x4 + 6)) (hx7 : zx L (x4 + 7)) (hx8 : zx L (x4 + 8)) : zOne L n 203 x4 u5 u6 S := by
  obtain ⟨q1, hq1⟩ : ∃ q, S 1000 (x4 + 1).toNatClampNeg = q := ⟨_, rfl⟩
  obtain ⟨q2, hq2⟩ : ∃ q, S 1000 (x4 + 2).toNatClampNeg = q := ⟨_, rfl⟩
  have ha := zya6 q1 q2 h
  have e := zye6 x4 u5 u6 q1 q2 (zyr6 q1 q2 hn ha) rfl
  have c := zyc6 L x4 u5 u6 S q1 q2 hx1 hq1 hx2 hq2 (zg6_g0 hn h q1 q2) (zg6_g1 hn h q1 q2) (zg6_g2 hn h q1 q2) (zg6_g3 hn h q1 q2) (zg6_g4 hn h q1 q2) (zg6_mg0 hn ha q1 q2) (zg6_mg1 hn ha q1 q2) (zg6_mg2 hn ha q1 q2)
  rw [e] at c
  exact ⟨_, _, _, c, zyz6 q1 q2 h (fun hT => zyt6_Seal q1 q2 hn hT), (zpZ6 q1 q2).1 1000 rfl⟩
theorem zyl7 {L n : Nat} {x4 : Int32} (u5 u6 : Option zV) {S : zS} (hn : n < 512) (h : zR n S S) (hx1 : zx L (x4 + 1)) (hx2 : zx L (x4 + 2)) (hx3 : zx L (x4 + 3)) (hx4 : zx L (x4 + 4)) (hx5 : zx L (x4 + 5)) (hx6 : zx L (x4 + 6)) (hx7 : zx L (x4 + 7)) (hx8 : zx L (x4 + 8)) : zOne L n 248 x4 u5 u6 S := by
  obtain ⟨q1, hq1⟩ : ∃ q, S 1000 (x4 + 1).toNatClampNeg = q := ⟨_, rfl⟩
  obtain ⟨q2, hq2⟩ : ∃ q, S 1000 (x4 + 2).toNatClampNeg = q := ⟨_, rfl⟩
  have ha := zya7 q1 q2 h
  have e := zye7 x4 u5 u6 q1 q2 (zyr7 q1 q2 hn ha)
  have c := zyc7 L x4 u5 u6 S q1 q2 hx1 hq1 hx2 hq2
  rw [e] at c
  exact ⟨_, _, _, c, zyz7 q1 q2 h (fun hT => zyt7_Key q1 q2 hn hT), (zpZ7 q1 q2).1 1000 rfl⟩
theorem zyl8 {L n : Nat} {x4 : Int32} (u5 u6 : Option zV) {S : zS} (hn : n < 512) (h : zR n S S) (hx1 : zx L (x4 + 1)) (hx2 : zx L (x4 + 2)) (hx3 : zx L (x4 + 3)) (hx4 : zx L (x4 + 4)) (hx5 : zx L (x4 + 5)) (hx6 : zx L (x4 + 6)) (hx7 : zx L (x4 + 7)) (hx8 : zx L (x4 + 8)) : zOne L n 280 x4 u5 u6 S := by
  have ha := zya8  h
  have e := zye8 x4 u5 u6 (zyr8  hn ha)
  have c := zyc8 L x4 u5 u6 S
  rw [e] at c
  exact ⟨_, _, _, c, zyz8 h (fun hT => zyt8_Key  hn hT), (zpZ8 ).1 1000 rfl⟩
theorem zyl9 {L n : Nat} {x4 : Int32} (u5 u6 : Option zV) {S : zS} (hn : n < 512) (h : zR n S S) (hx1 : zx L (x4 + 1)) (hx2 : zx L (x4 + 2)) (hx3 : zx L (x4 + 3)) (hx4 : zx L (x4 + 4)) (hx5 : zx L (x4 + 5)) (hx6 : zx L (x4 + 6)) (hx7 : zx L (x4 + 7)) (hx8 : zx L (x4 + 8)) : zOne L n 287 x4 u5 u6 S := by
  obtain ⟨q1, hq1⟩ : ∃ q, S 1000 (x4 + 1).toNatClampNeg = q := ⟨_, rfl⟩
  have ha := zya9 q1 h
  have e := zye9 x4 u5 u6 q1 (zyr9 q1 hn ha) rfl
  have c := zyc9 L x4 u5 u6 S q1 hx1 hq1
  rw [e] at c
  exact ⟨_, _, _, c, zyz9 q1 h (fun hT => zyt9_Key q1 hn hT), (zpZ9 q1).1 1000 rfl⟩
theorem zyl10 {L n : Nat} {x4 : Int32} (u5 u6 : Option zV) {S : zS} (hn : n < 512) (h : zR n S S) (hx1 : zx L (x4 + 1)) (hx2 : zx L (x4 + 2)) (hx3 : zx L (x4 + 3)) (hx4 : zx L (x4 + 4)) (hx5 : zx L (x4 + 5)) (hx6 : zx L (x4 + 6)) (hx7 : zx L (x4 + 7)) (hx8 : zx L (x4 + 8)) : zOne L n 322 x4 u5 u6 S := by
  obtain ⟨q1, hq1⟩ : ∃ q, S 1000 (x4 + 1).toNatClampNeg = q := ⟨_, rfl⟩
  have ha := zya10 q1 h
  have e := zye10 x4 u5 u6 q1 (zyr10 q1 hn ha) rfl
  have c := zyc10 L x4 u5 u6 S q1 hx1 hq1 (zg10_g0 hn h q1) (zg10_g1 hn h q1) (zg10_mg0 hn ha q1)
  rw [e] at c
  exact ⟨_, _, _, c, zyz10 q1 h (fun hT => zyt10_Key q1 hn hT) (fun hT => zyt10_Sto q1 hn hT), (zpZ10 q1).1 1000 rfl⟩
theorem zyl11 {L n : Nat} {x4 : Int32} (u5 u6 : Option zV) {S : zS} (hn : n < 512) (h : zR n S S) (hx1 : zx L (x4 + 1)) (hx2 : zx L (x4 + 2)) (hx3 : zx L (x4 + 3)) (hx4 : zx L (x4 + 4)) (hx5 : zx L (x4 + 5)) (hx6 : zx L (x4 + 6)) (hx7 : zx L (x4 + 7)) (hx8 : zx L (x4 + 8)) : zOne L n 357 x4 u5 u6 S := by
  have ha := zya11  h
  have e := zye11 x4 u5 u6 (zyr11  hn ha)
  have c := zyc11 L x4 u5 u6 S
  rw [e] at c
  exact ⟨_, _, _, c, zyz11 h, (zpZ11 ).1 1000 rfl⟩
theorem zyl12 {L n : Nat} {x4 : Int32} (u5 u6 : Option zV) {S : zS} (hn : n < 512) (h : zR n S S) (hx1 : zx L (x4 + 1)) (hx2 : zx L (x4 + 2)) (hx3 : zx L (x4 + 3)) (hx4 : zx L (x4 + 4)) (hx5 : zx L (x4 + 5)) (hx6 : zx L (x4 + 6)) (hx7 : zx L (x4 + 7)) (hx8 : zx L (x4 + 8)) : zOne L n 364 x4 u5 u6 S := by
  obtain ⟨q1, hq1⟩ : ∃ q, S 1000 (x4 + 1).toNatClampNeg = q := ⟨_, rfl⟩
  obtain ⟨q2, hq2⟩ : ∃ q, S 1000 (x4 + 2).toNatClampNeg = q := ⟨_, rfl⟩
  obtain ⟨q3, hq3⟩ : ∃ q, S 1000 (x4 + 3).toNatClampNeg = q := ⟨_, rfl⟩
  have ha := zya12 q1 q2 q3 h
  have e := zye12 x4 u5 u6 q1 q2 q3 (zyr12 q1 q2 q3 hn ha)
  have c := zyc12 L x4 u5 u6 S q1 q2 q3 hx1 hq1 hx2 hq2 hx3 hq3 (zg12_g0 hn h q1 q2 q3) (zg12_g1 hn h q1 q2 q3) (zg12_g2 hn h q1 q2 q3) (zg12_g3 hn h q1 q2 q3) (zg12_g4 hn h q1 q2 q3) (zg12_g5 hn h q1 q2 q3) (zg12_g6 hn h q1 q2 q3) (zg12_g7 hn h q1 q2 q3) (zg12_g8 hn h q1 q2 q3) (zg12_mg0 hn ha q1 q2 q3) (zg12_mg1 hn ha q1 q2 q3) (zg12_mg2 hn ha q1 q2 q3) (zg12_mg3 hn ha q1 q2 q3) (zg12_mg4 hn ha q1 q2 q3) (zg12_mg5 hn ha q1 q2 q3) (zg12_mg6 hn ha q1 q2 q3) (zg12_mg7 hn ha q1 q2 q3)
  rw [e] at c
  exact ⟨_, _, _, c, zyz12 q1 q2 q3 h (fun hT => zyt12_Eng q1 q2 q3 hn hT) (fun hT => zyt12_Lea q1 q2 q3 hn hT) (fun hT => zyt12_LT q1 q2 q3 hn hT) (fun hT => zyt12_Sto q1 q2 q3 hn hT) (fun hT => zyt12_Far q1 q2 q3 hn hT) (fun hT => zyt12_Log q1 q2 q3 hn hT) (fun hT => zyt12_Cas q1 q2 q3 hn hT), (zpZ12 q1 q2 q3).1 1000 rfl⟩
theorem zyl13 {L n : Nat} {x4 : Int32} (u5 u6 : Option zV) {S : zS} (hn : n < 512) (h : zR n S S) (hx1 : zx L (x4 + 1)) (hx2 : zx L (x4 + 2)) (hx3 : zx L (x4 + 3)) (hx4 : zx L (x4 + 4)) (hx5 : zx L (x4 + 5)) (hx6 : zx L (x4 + 6)) (hx7 : zx L (x4 + 7)) (hx8 : zx L (x4 + 8)) : zOne L n 406 x4 u5 u6 S := by
  obtain ⟨q1, hq1⟩ : ∃ q, S 1000 (x4 + 1).toNatClampNeg = q := ⟨_, rfl⟩
  obtain ⟨q2, hq2⟩ : ∃ q, S 1000 (x4 + 2).toNatClampNeg = q := ⟨_, rfl⟩
  have ha := zya13 q1 q2 h
  have e := zye13 x4 u5 u6 q1 q2 (zyr13 q1 q2 hn ha) rfl
  have c := zyc13 L x4 u5 u6 S q1 q2 hx1 hq1 hx2 hq2 (zg13_g0 hn h q1 q2) (zg13_mg0 hn ha q1 q2)
  rw [e] at c
  exact ⟨_, _, _, c, zyz13 q1 q2 h (fun hT => zyt13_Eng q1 q2 hn hT), (zpZ13 q1 q2).1 1000 rfl⟩
theorem zyl14 {L n : Nat} {x4 : Int32} (u5 u6 : Option zV) {S : zS} (hn : n < 512) (h : zR n S S) (hx1 : zx L (x4 + 1)) (hx2 : zx L (x4 + 2)) (hx3 : zx L (x4 + 3)) (hx4 : zx L (x4 + 4)) (hx5 : zx L (x4 + 5)) (hx6 : zx L (x4 + 6)) (hx7 : zx L (x4 + 7)) (hx8 : zx L (x4 + 8)) : zOne L n 451 x4 u5 u6 S := by
  obtain ⟨q1, hq1⟩ : ∃ q, S 1000 (x4 + 1).toNatClampNeg = q := ⟨_, rfl⟩
  obtain ⟨q2, hq2⟩ : ∃ q, S 1000 (x4 + 2).toNatClampNeg = q := ⟨_, rfl⟩
  obtain ⟨q3, hq3⟩ : ∃ q, S 1000 (x4 + 3).toNatClampNeg = q := ⟨_, rfl⟩
  obtain ⟨q4, hq4⟩ : ∃ q, S 1000 (x4 + 4).toNatClampNeg = q := ⟨_, rfl⟩
  obtain ⟨q5, hq5⟩ : ∃ q, S 1000 (x4 + 5).toNatClampNeg = q := ⟨_, rfl⟩
  obtain ⟨q6, hq6⟩ : ∃ q, S 1000 (x4 + 6).toNatClampNeg = q := ⟨_, rfl⟩
  have ha := zya14 q1 q2 q3 q4 q5 q6 h
  have e := zye14 x4 u5 u6 q1 q2 q3 q4 q5 q6 (zyr14 q1 q2 q3 q4 q5 q6 hn ha) rfl
  have c := zyc14 L x4 u5 u6 S q1 q2 q3 q4 q5 q6 hx1 hq1 hx2 hq2 hx3 hq3 hx4 hq4 hx5 hq5 hx6 hq6 (zg14_g0 hn h q1 q2 q3 q4 q5 q6) (zg14_g1 hn h q1 q2 q3 q4 q5 q6) (zg14_g2 hn h q1 q2 q3 q4 q5 q6) (zg14_g3 hn h q1 q2 q3 q4 q5 q6) (zg14_g4 hn h q1 q2 q3 q4 q5 q6) (zg14_mg0 hn ha q1 q2 q3 q4 q5 q6) (zg14_mg1 hn ha q1 q2 q3 q4 q5 q6) (zg14_mg2 hn ha q1 q2 q3 q4 q5 q6) (zg14_mg3 hn ha q1 q2 q3 q4 q5 q6) (zg14_mg4 hn ha q1 q2 q3 q4 q5 q6) (zg14_mg5 hn ha q1 q2 q3 q4 q5 q6) (zg14_mg6 hn ha q1 q2 q3 q4 q5 q6)
  rw [e] at c
  exact ⟨_, _, _, c, zyz14 q1 q2 q3 q4 q5 q6 h (fun hT => zyt14_Rul q1 q2 q3 q4 q5 q6 hn hT), (zpZ14 q1 q2 q3 q4 q5 q6).1 1000 rfl⟩
theorem zyl15 {L n : Nat} {x4 : Int32} (u5 u6 : Option zV) {S : zS} (hn : n < 512) (h : zR n S S) (hx1 : zx L (x4 + 1)) (hx2 : zx L (x4 + 2)) (hx3 : zx L (x4 + 3)) (hx4 : zx L (x4 + 4)) (hx5 : zx L (x4 + 5)) (hx6 : zx L (x4 + 6)) (hx7 : zx L (x4 + 7)) (hx8 : zx L (x4 + 8)) : zOne L n 536 x4 u5 u6 S := by
  obtain ⟨q1, hq1⟩ : ∃ q, S 1000 (x4 + 1).toNatClampNeg = q := ⟨_, rfl⟩
  have ha := zya15 q1 h
  have e := zye15 x4 u5 u6 q1 (zyr15 q1 hn ha) rfl
  have c := zyc15 L x4 u5 u6 S q1 hx1 hq1 (zg15_g0 hn h q1) (zg15_mg0 hn ha q1)
  rw [e] at c
  exact ⟨_, _, _, c, zyz15 q1 h (fun hT => zyt15_Rul q1 hn hT), (zpZ15 q1).1 1000 rfl⟩
theorem zyl16 {L n : Nat} {x4 : Int32} (u5 u6 : Option zV) {S : zS} (hn : n < 512) (h : zR n S S) (hx1 : zx L (x4 + 1)) (hx2 : zx L (x4 + 2)) (hx3 : zx L (x4 + 3)) (hx4 : zx L (x4 + 4)) (hx5 : zx L (x4 + 5)) (hx6 : zx L (x4 + 6)) (hx7 : zx L (x4 + 7)) (hx8 : zx L (x4 + 8)) : zOne L n 571 x4 u5 u6 S := by
  obtain ⟨q1, hq1⟩ : ∃ q, S 1000 (x4 + 1).toNatClampNeg = q := ⟨_, rfl⟩
  obtain ⟨q2, hq2⟩ : ∃ q, S 1000 (x4 + 2).toNatClampNeg = q := ⟨_, rfl⟩
  obtain ⟨q3, hq3⟩ : ∃ q, S 1000 (x4 + 3).toNatClampNeg = q := ⟨_, rfl⟩
  have ha := zya16 q1 q2 q3 h
  have e := zye16 x4 u5 u6 q1 q2 q3 (zyr16 q1 q2 q3 hn ha) rfl
  have c := zyc16 L x4 u5 u6 S q1 q2 q3 hx1 hq1 hx2 hq2 hx3 hq3 (zg16_g0 hn h q1 q2 q3) (zg16_g1 hn h q1 q2 q3) (zg16_g2 hn h q1 q2 q3) (zg16_mg0 hn ha q1 q2 q3) (zg16_mg1 hn ha q1 q2 q3) (zg16_mg2 hn ha q1 q2 q3)
  rw [e] at c
  exact ⟨_, _, _, c, zyz16 q1 q2 q3 h (fun hT => zyt16_Ppl q1 q2 q3 hn hT), (zpZ16 q1 q2 q3).1 1000 rfl⟩
theorem zyl17 {L n : Nat} {x4 : Int32} (u5 u6 : Option zV) {S : zS} (hn : n < 512) (h : zR n S S) (hx1 : zx L (x4 + 1)) (hx2 : zx L (x4 + 2)) (hx3 : zx L (x4 + 3)) (hx4 : zx L (x4 + 4)) (hx5 : zx L (x4 + 5)) (hx6 : zx L (x4 + 6)) (hx7 : zx L (x4 + 7)) (hx8 : zx L (x4 + 8)) : zOne L n 626 x4 u5 u6 S := by
  obtain ⟨q1, hq1⟩ : ∃ q, S 1000 (x4 + 1).toNatClampNeg = q := ⟨_, rfl⟩
  obtain ⟨q2, hq2⟩ : ∃ q, S 1000 (x4 + 2).toNatClampNeg = q := ⟨_, rfl⟩
  obtain ⟨q3, hq3⟩ : ∃ q, S 1000 (x4 + 3).toNatClampNeg = q := ⟨_, rfl⟩
  have ha := zya17 q1 q2 q3 h
  have e := zye17 x4 u5 u6 q1 q2 q3 (zyr17 q1 q2 q3 hn ha) rfl
  have c := zyc17 L x4 u5 u6 S q1 q2 q3 hx1 hq1 hx2 hq2 hx3 hq3 (zg17_g0 hn h q1 q2 q3) (zg17_mg0 hn ha q1 q2 q3)
  rw [e] at c
  exact ⟨_, _, _, c, zyz17 q1 q2 q3 h (fun hT => zyt17_Ppl q1 q2 q3 hn hT), (zpZ17 q1 q2 q3).1 1000 rfl⟩
theorem zyl18 {L n : Nat} {x4 : Int32} (u5 u6 : Option zV) {S : zS} (hn : n < 512) (h : zR n S S) (hx1 : zx L (x4 + 1)) (hx2 : zx L (x4 + 2)) (hx3 : zx L (x4 + 3)) (hx4 : zx L (x4 + 4)) (hx5 : zx L (x4 + 5)) (hx6 : zx L (x4 + 6)) (hx7 : zx L (x4 + 7)) (hx8 : zx L (x4 + 8)) : zOne L n 681 x4 u5 u6 S := by
  obtain ⟨q1, hq1⟩ : ∃ q, S 1000 (x4 + 1).toNatClampNeg = q := ⟨_, rfl⟩
  obtain ⟨q2, hq2⟩ : ∃ q, S 1000 (x4 + 2).toNatClampNeg = q := ⟨_, rfl⟩
  have ha := zya18 q1 q2 h
  have e := zye18 x4 u5 u6 q1 q2 (zyr18 q1 q2 hn ha) rfl
  have c := zyc18 L x4 u5 u6 S q1 q2 hx1 hq1 hx2 hq2 (zg18_g0 hn h q1 q2) (zg18_mg0 hn ha q1 q2)
  rw [e] at c
  exact ⟨_, _, _, c, zyz18 q1 q2 h (fun hT => zyt18_Ppl q1 q2 hn hT) (fun hT => zyt18_Tok q1 q2 hn hT), (zpZ18 q1 q2).1 1000 rfl⟩
theorem zyl19 {L n : Nat} {x4 : Int32} (u5 u6 : Option zV) {S : zS} (hn : n < 512) (h : zR n S S) (hx1 : zx L (x4 + 1)) (hx2 : zx L (x4 + 2)) (hx3 : zx L (x4 + 3)) (hx4 : zx L (x4 + 4)) (hx5 : zx L (x4 + 5)) (hx6 : zx L (x4 + 6)) (hx7 : zx L (x4 + 7)) (hx8 : zx L (x4 + 8)) : zOne L n 726 x4 u5 u6 S := by
  obtain ⟨q1, hq1⟩ : ∃ q, S 1000 (x4 + 1).toNatClampNeg = q := ⟨_, rfl⟩
  obtain ⟨q2, hq2⟩ : ∃ q, S 1000 (x4 + 2).toNatClampNeg = q := ⟨_, rfl⟩
  obtain ⟨q3, hq3⟩ : ∃ q, S 1000 (x4 + 3).toNatClampNeg = q := ⟨_, rfl⟩
  obtain ⟨q4, hq4⟩ : ∃ q, S 1000 (x4 + 4).toNatClampNeg = q := ⟨_, rfl⟩
  have ha := zya19 q1 q2 q3 q4 h
  have e := zye19 x4 u5 u6 q1 q2 q3 q4 (zyr19 q1 q2 q3 q4 hn ha) rfl
  have c := zyc19 L x4 u5 u6 S q1 q2 q3 q4 hx1 hq1 hx2 hq2 hx3 hq3 hx4 hq4 (zg19_g0 hn h q1 q2 q3 q4) (zg19_g1 hn h q1 q2 q3 q4) (zg19_mg0 hn ha q1 q2 q3 q4) (zg19_mg1 hn ha q1 q2 q3 q4)
  rw [e] at c
  exact ⟨_, _, _, c, zyz19 q1 q2 q3 q4 h (fun hT => zyt19_Ppl q1 q2 q3 q4 hn hT), (zpZ19 q1 q2 q3 q4).1 1000 rfl⟩
theorem zyl20 {L n : Nat} {x4 : Int32} (u5 u6 : Option zV) {S : zS} (hn : n < 512) (h : zR n S S) (hx1 : zx L (x4 + 1)) (hx2 : zx L (x4 + 2)) (hx3 : zx L (x4 + 3)) (hx4 : zx L (x4 + 4)) (hx5 : zx L (x4 + 5)) (hx6 : zx L (x4 + 6)) (hx7 : zx L (x4 + 7)) (hx8 : zx L (x4 + 8)) : zOne L n 810 x4 u5 u6 S := by
  obtain ⟨q1, hq1⟩ : ∃ q, S 1000 (x4 + 1).toNatClampNeg = q := ⟨_, rfl⟩
  obtain ⟨q2, hq2⟩ : ∃ q, S 1000 (x4 + 2).toNatClampNeg = q := ⟨_, rfl⟩
  have ha := zya20 q1 q2 h
  have e := zye20 x4 u5 u6 q1 q2 (zyr20 q1 q2 hn ha) rfl
  have c := zyc20 L x4 u5 u6 S q1 q2 hx1 hq1 hx2 hq2 (zg20_g0 hn h q1 q2) (zg20_g1 hn h q1 q2) (zg20_g2 hn h q1 q2) (zg20_g3 hn h q1 q2) (zg20_mg0 hn ha q1 q2) (zg20_mg1 hn ha q1 q2) (zg20_mg2 hn ha q1 q2)
  rw [e] at c
  exact ⟨_, _, _, c, zyz20 q1 q2 h (fun hT => zyt20_Tok q1 q2 hn hT) (fun hT => zyt20_LT q1 q2 hn hT) (fun hT => zyt20_Use q1 q2 hn hT) (fun hT => zyt20_Cas q1 q2 hn hT), (zpZ20 q1 q2).1 1000 rfl⟩
theorem zyl21 {L n : Nat} {x4 : Int32} (u5 u6 : Option zV) {S : zS} (hn : n < 512) (h : zR n S S) (hx1 : zx L (x4 + 1)) (hx2 : zx L (x4 + 2)) (hx3 : zx L (x4 + 3)) (hx4 : zx L (x4 + 4)) (hx5 : zx L (x4 + 5)) (hx6 : zx L (x4 + 6)) (hx7 : zx L (x4 + 7)) (hx8 : zx L (x4 + 8)) : zOne L n 855 x4 u5 u6 S := by
  obtain ⟨q1, hq1⟩ : ∃ q, S 1000 (x4 + 1).toNatClampNeg = q := ⟨_, rfl⟩
  obtain ⟨q2, hq2⟩ : ∃ q, S 1000 (x4 + 2).toNatClampNeg = q := ⟨_, rfl⟩
  obtain ⟨q3, hq3⟩ : ∃ q, S 1000 (x4 + 3).toNatClampNeg = q := ⟨_, rfl⟩
  obtain ⟨q4, hq4⟩ : ∃ q, S 1000 (x4 + 4).toNatClampNeg = q := ⟨_, rfl⟩
  obtain ⟨q5, hq5⟩ : ∃ q, S 1000 (x4 + 5).toNatClampNeg = q := ⟨_, rfl⟩
  obtain ⟨q6, hq6⟩ : ∃ q, S 1000 (x4 + 6).toNatClampNeg = q := ⟨_, rfl⟩
  obtain ⟨q7, hq7⟩ : ∃ q, S 1000 (x4 + 7).toNatClampNeg = q := ⟨_, rfl⟩
  obtain ⟨q8, hq8⟩ : ∃ q, S 1000 (x4 + 8).toNatClampNeg = q := ⟨_, rfl⟩
  have ha := zya21 q1 q2 q3 q4 q5 q6 q7 q8 h
  have e := zye21 x4 u5 u6 q1 q2 q3 q4 q5 q6 q7 q8 (zyr21 q1 q2 q3 q4 q5 q6 q7 q8 hn ha) rfl
  have c := zyc21 L x4 u5 u6 S q1 q2 q3 q4 q5 q6 q7 q8 hx1 hq1 hx2 hq2 hx3 hq3 hx4 hq4 hx5 hq5 hx6 hq6 hx7 hq7 hx8 hq8 (zg21_g0 hn h q1 q2 q3 q4 q5 q6 q7 q8) (zg21_g1 hn h q1 q2 q3 q4 q5 q6 q7 q8) (zg21_g2 hn h q1 q2 q3 q4 q5 q6 q7 q8) (zg21_g3 hn h q1 q2 q3 q4 q5 q6 q7 q8) (zg21_mg0 hn ha q1 q2 q3 q4 q5 q6 q7 q8) (zg21_mg1 hn ha q1 q2 q3 q4 q5 q6 q7 q8) (zg21_mg2 hn ha q1 q2 q3 q4 q5 q6 q7 q8) (zg21_mg3 hn ha q1 q2 q3 q4 q5 q6 q7 q8) (zg21_mg4 hn ha q1 q2 q3 q4 q5 q6 q7 q8)
  rw [e] at c
  exact ⟨_, _, _, c, zyz21 q1 q2 q3 q4 q5 q6 q7 q8 h (fun hT => zyt21_Tok q1 q2 q3 q4 q5 q6 q7 q8 hn hT) (fun hT => zyt21_LT q1 q2 q3 q4 q5 q6 q7 q8 hn hT) (fun hT => zyt21_Use q1 q2 q3 q4 q5 q6 q7 q8 hn hT) (fun hT => zyt21_Cas q1 q2 q3 q4 q5 q6 q7 q8 hn hT), (zpZ21 q1 q2 q3 q4 q5 q6 q7 q8).1 1000 rfl⟩
theorem zyl22 {L n : Nat} {x4 : Int32} (u5 u6 : Option zV) {S : zS} (hn : n < 512) (h : zR n S S) (hx1 : zx L (x4 + 1)) (hx2 : zx L (x4 + 2)) (hx3 : zx L (x4 + 3)) (hx4 : zx L (x4 + 4)) (hx5 : zx L (x4 + 5)) (hx6 : zx L (x4 + 6)) (hx7 : zx L (x4 + 7)) (hx8 : zx L (x4 + 8)) : zOne L n 968 x4 u5 u6 S := by
  obtain ⟨q1, hq1⟩ : ∃ q, S 1000 (x4 + 1).toNatClampNeg = q := ⟨_, rfl⟩
  obtain ⟨q2, hq2⟩ : ∃ q, S 1000 (x4 + 2).toNatClampNeg = q := ⟨_, rfl⟩
  have ha := zya22 q1 q2 h
  have e := zye22 x4 u5 u6 q1 q2 (zyr22 q1 q2 hn ha) rfl
  have c := zyc22 L x4 u5 u6 S q1 q2 hx1 hq1 hx2 hq2 (zg22_g0 hn h q1 q2) (zg22_g1 hn h q1 q2) (zg22_mg0 hn ha q1 q2)
  rw [e] at c
  exact ⟨_, _, _, c, zyz22 q1 q2 h (fun hT => zyt22_Tok q1 q2 hn hT), (zpZ22 q1 q2).1 1000 rfl⟩
theorem zyl23 {L n : Nat} {x4 : Int32} (u5 u6 : Option zV) {S : zS} (hn : n < 512) (h : zR n S S) (hx1 : zx L (x4 + 1)) (hx2 : zx L (x4 + 2)) (hx3 : zx L (x4 + 3)) (hx4 : zx L (x4 + 4)) (hx5 : zx L (x4 + 5)) (hx6 : zx L (x4 + 6)) (hx7 : zx L (x4 + 7)) (hx8 : zx L (x4 + 8)) : zOne L n 1013 x4 u5 u6 S := by
  obtain ⟨q1, hq1⟩ : ∃ q, S 1000 (x4 + 1).toNatClampNeg = q := ⟨_, rfl⟩
  have ha := zya23 q1 h
  have e := zye23 x4 u5 u6 q1 (zyr23 q1 hn ha) rfl
  have c := zyc23 L x4 u5 u6 S q1 hx1 hq1 (zg23_g0 hn h q1) (zg23_g1 hn h q1) (zg23_g2 hn h q1) (zg23_g3 hn h q1) (zg23_g4 hn h q1) (zg23_g5 hn h q1) (zg23_mg0 hn ha q1) (zg23_mg1 hn ha q1) (zg23_mg2 hn ha q1) (zg23_mg3 hn ha q1) (zg23_mg4 hn ha q1) (zg23_mg5 hn ha q1) (zg23_mg6 hn ha q1)
  rw [e] at c
  exact ⟨_, _, _, c, zyz23 q1 h (fun hT => zyt23_Tok q1 hn hT) (fun hT => zyt23_Lea q1 hn hT) (fun hT => zyt23_LT q1 hn hT) (fun hT => zyt23_Use q1 hn hT), (zpZ23 q1).1 1000 rfl⟩
theorem zyl24 {L n : Nat} {x4 : Int32} (u5 u6 : Option zV) {S : zS} (hn : n < 512) (h : zR n S S) (hx1 : zx L (x4 + 1)) (hx2 : zx L (x4 + 2)) (hx3 : zx L (x4 + 3)) (hx4 : zx L (x4 + 4)) (hx5 : zx L (x4 + 5)) (hx6 : zx L (x4 + 6)) (hx7 : zx L (x4 + 7)) (hx8 : zx L (x4 + 8)) : zOne L n 1048 x4 u5 u6 S := by
  obtain ⟨q1, hq1⟩ : ∃ q, S 1000 (x4 + 1).toNatClampNeg = q := ⟨_, rfl⟩
  have ha := zya24 q1 h
  have e := zye24 x4 u5 u6 q1 (zyr24 q1 hn ha) rfl
  have c := zyc24 L x4 u5 u6 S q1 hx1 hq1 (zg24_g0 hn h q1) (zg24_mg0 hn ha q1)
  rw [e] at c
  exact ⟨_, _, _, c, zyz24 q1 h, (zpZ24 q1).1 1000 rfl⟩
theorem zyl25 {L n : Nat} {x4 : Int32} (u5 u6 : Option zV) {S : zS} (hn : n < 512) (h : zR n S S) (hx1 : zx L (x4 + 1)) (hx2 : zx L (x4 + 2)) (hx3 : zx L (x4 + 3)) (hx4 : zx L (x4 + 4)) (hx5 : zx L (x4 + 5)) (hx6 : zx L (x4 + 6)) (hx7 : zx L (x4 + 7)) (hx8 : zx L (x4 + 8)) : zOne L n 1083 x4 u5 u6 S := by
  obtain ⟨q1, hq1⟩ : ∃ q, S 1000 (x4 + 1).toNatClampNeg = q := ⟨_, rfl⟩
  have ha := zya25 q1 h
  have e := zye25 x4 u5 u6 q1 (zyr25 q1 hn ha) rfl
  have c := zyc25 L x4 u5 u6 S q1 hx1 hq1 (zg25_g0 hn h q1) (zg25_mg0 hn ha q1)
  rw [e] at c
  exact ⟨_, _, _, c, zyz25 q1 h, (zpZ25 q1).1 1000 rfl⟩
theorem zyl26 {L n : Nat} {x4 : Int32} (u5 u6 : Option zV) {S : zS} (hn : n < 512) (h : zR n S S) (hx1 : zx L (x4 + 1)) (hx2 : zx L (x4 + 2)) (hx3 : zx L (x4 + 3)) (hx4 : zx L (x4 + 4)) (hx5 : zx L (x4 + 5)) (hx6 : zx L (x4 + 6)) (hx7 : zx L (x4 + 7)) (hx8 : zx L (x4 + 8)) : zOne L n 1121 x4 u5 u6 S := by
  obtain ⟨q1, hq1⟩ : ∃ q, S 1000 (x4 + 1).toNatClampNeg = q := ⟨_, rfl⟩
  obtain ⟨q2, hq2⟩ : ∃ q, S 1000 (x4 + 2).toNatClampNeg = q := ⟨_, rfl⟩
  have ha := zya26 q1 q2 h
  have e := zye26 x4 u5 u6 q1 q2 (zyr26 q1 q2 hn ha) rfl
  have c := zyc26 L x4 u5 u6 S q1 q2 hx1 hq1 hx2 hq2 (zg26_g0 hn h q1 q2) (zg26_g1 hn h q1 q2) (zg26_mg0 hn ha q1 q2) (zg26_mg1 hn ha q1 q2)
  rw [e] at c
  exact ⟨_, _, _, c, zyz26 q1 q2 h, (zpZ26 q1 q2).1 1000 rfl⟩
theorem zyl27 {L n : Nat} {x4 : Int32} (u5 u6 : Option zV) {S : zS} (hn : n < 512) (h : zR n S S) (hx1 : zx L (x4 + 1)) (hx2 : zx L (x4 + 2)) (hx3 : zx L (x4 + 3)) (hx4 : zx L (x4 + 4)) (hx5 : zx L (x4 + 5)) (hx6 : zx L (x4 + 6)) (hx7 : zx L (x4 + 7)) (hx8 : zx L (x4 + 8)) : zOne L n 1166 x4 u5 u6 S := by
  obtain ⟨q1, hq1⟩ : ∃ q, S 1000 (x4 + 1).toNatClampNeg = q := ⟨_, rfl⟩
  obtain ⟨q2, hq2⟩ : ∃ q, S 1000 (x4 + 2).toNatClampNeg = q := ⟨_, rfl⟩
  obtain ⟨q3, hq3⟩ : ∃ q, S 1000 (x4 + 3).toNatClampNeg = q := ⟨_, rfl⟩
  obtain ⟨q4, hq4⟩ : ∃ q, S 1000 (x4 + 4).toNatClampNeg = q := ⟨_, rfl⟩
  have ha := zya27 q1 q2 q3 q4 h
  have e := zye27 x4 u5 u6 q1 q2 q3 q4 (zyr27 q1 q2 q3 q4 hn ha) rfl
  have c := zyc27 L x4 u5 u6 S q1 q2 q3 q4 hx1 hq1 hx2 hq2 hx3 hq3 hx4 hq4 (zg27_g0 hn h q1 q2 q3 q4) (zg27_g1 hn h q1 q2 q3 q4) (zg27_g2 hn h q1 q2 q3 q4) (zg27_g3 hn h q1 q2 q3 q4) (zg27_g4 hn h q1 q2 q3 q4) (zg27_g5 hn h q1 q2 q3 q4) (zg27_g6 hn h q1 q2 q3 q4) (zg27_g7 hn h q1 q2 q3 q4) (zg27_g8 hn h q1 q2 q3 q4) (zg27_g9 hn h q1 q2 q3 q4) (zg27_g10 hn h q1 q2 q3 q4) (zg27_g11 hn h q1 q2 q3 q4) (zg27_g12 hn h q1 q2 q3 q4) (zg27_g13 hn h q1 q2 q3 q4) (zg27_g14 hn h q1 q2 q3 q4) (zg27_g15 hn h q1 q2 q3 q4) (zg27_g16 hn h q1 q2 q3 q4) (zg27_g17 hn h q1 q2 q3 q4) (zg27_mg0 hn ha q1 q2 q3 q4) (zg27_mg1 hn ha q1 q2 q3 q4) (zg27_mg2 hn ha q1 q2 q3 q4) (zg27_mg3 hn ha q1 q2 q3 q4) (zg27_mg4 hn ha q1 q2 q3 q4) (zg27_mg5 hn ha q1 q2 q3 q4) (zg27_mg6 hn ha q1 q2 q3 q4) (zg27_mg7 hn ha q1 q2 q3 q4) (zg27_mg8 hn ha q1 q2 q3 q4) (zg27_mg9 hn ha q1 q2 q3 q4) (zg27_mg10 hn ha q1 q2 q3 q4) (zg27_mg11 hn ha q1 q2 q3 q4) (zg27_mg12 hn ha q1 q2 q3 q4) (zg27_mg13 hn ha q1 q2 q3 q4) (zg27_mg14 hn ha q1 q2 q3 q4) (zg27_mg15 hn ha q1 q2 q3 q4) (zg27_mg16 hn ha q1 q2 q3 q4) (zg27_mg17 hn ha q1 q2 q3 q4) (zg27_mg18 hn ha q1 q2 q3 q4) (zg27_mg19 hn ha q1 q2 q3 q4) (zg27_mg20 hn ha q1 q2 q3 q4) (zg27_mg21 hn ha q1 q2 q3 q4) (zg27_mg22 hn ha q1 q2 q3 q4)
  rw [e] at c
  exact ⟨_, _, _, c, zyz27 q1 q2 q3 q4 h (fun hT => zyt27_Eng q1 q2 q3 q4 hn hT) (fun hT => zyt27_Tok q1 q2 q3 q4 hn hT) (fun hT => zyt27_Lea q1 q2 q3 q4 hn hT) (fun hT => zyt27_LT q1 q2 q3 q4 hn hT) (fun hT => zyt27_Use q1 q2 q3 q4 hn hT) (fun hT => zyt27_Cas q1 q2 q3 q4 hn hT) (fun hT => zyt27_Sin q1 q2 q3 q4 hn hT), (zpZ27 q1 q2 q3 q4).1 1000 rfl⟩
theorem zyl28 {L n : Nat} {x4 : Int32} (u5 u6 : Option zV) {S : zS} (hn : n < 512) (h : zR n S S) (hx1 : zx L (x4 + 1)) (hx2 : zx L (x4 + 2)) (hx3 : zx L (x4 + 3)) (hx4 : zx L (x4 + 4)) (hx5 : zx L (x4 + 5)) (hx6 : zx L (x4 + 6)) (hx7 : zx L (x4 + 7)) (hx8 : zx L (x4 + 8)) : zOne L n 1231 x4 u5 u6 S := by
  obtain ⟨q1, hq1⟩ : ∃ q, S 1000 (x4 + 1).toNatClampNeg = q := ⟨_, rfl⟩
  obtain ⟨q2, hq2⟩ : ∃ q, S 1000 (x4 + 2).toNatClampNeg = q := ⟨_, rfl⟩
  obtain ⟨q3, hq3⟩ : ∃ q, S 1000 (x4 + 3).toNatClampNeg = q := ⟨_, rfl⟩
  obtain ⟨q4, hq4⟩ : ∃ q, S 1000 (x4 + 4).toNatClampNeg = q := ⟨_, rfl⟩
  obtain ⟨q5, hq5⟩ : ∃ q, S 1000 (x4 + 5).toNatClampNeg = q := ⟨_, rfl⟩
  have ha := zya28 q1 q2 q3 q4 q5 h
  have e := zye28 x4 u5 u6 q1 q2 q3 q4 q5 (zyr28 q1 q2 q3 q4 q5 hn ha) rfl
  have c := zyc28 L x4 u5 u6 S q1 q2 q3 q4 q5 hx1 hq1 hx2 hq2 hx3 hq3 hx4 hq4 hx5 hq5 (zg28_g0 hn h q1 q2 q3 q4 q5) (zg28_g1 hn h q1 q2 q3 q4 q5) (zg28_g2 hn h q1 q2 q3 q4 q5) (zg28_g3 hn h q1 q2 q3 q4 q5) (zg28_g4 hn h q1 q2 q3 q4 q5) (zg28_g5 hn h q1 q2 q3 q4 q5) (zg28_g6 hn h q1 q2 q3 q4 q5) (zg28_g7 hn h q1 q2 q3 q4 q5) (zg28_g8 hn h q1 q2 q3 q4 q5) (zg28_g9 hn h q1 q2 q3 q4 q5) (zg28_g10 hn h q1 q2 q3 q4 q5) (zg28_g11 hn h q1 q2 q3 q4 q5) (zg28_g12 hn h q1 q2 q3 q4 q5) (zg28_g13 hn h q1 q2 q3 q4 q5) (zg28_g14 hn h q1 q2 q3 q4 q5) (zg28_g15 hn h q1 q2 q3 q4 q5) (zg28_g16 hn h q1 q2 q3 q4 q5) (zg28_g17 hn h q1 q2 q3 q4 q5) (zg28_g18 hn h q1 q2 q3 q4 q5) (zg28_mg0 hn ha q1 q2 q3 q4 q5) (zg28_mg1 hn ha q1 q2 q3 q4 q5) (zg28_mg2 hn ha q1 q2 q3 q4 q5) (zg28_mg3 hn ha q1 q2 q3 q4 q5) (zg28_mg4 hn ha q1 q2 q3 q4 q5) (zg28_mg5 hn ha q1 q2 q3 q4 q5) (zg28_mg6 hn ha q1 q2 q3 q4 q5) (zg28_mg7 hn ha q1 q2 q3 q4 q5) (zg28_mg8 hn ha q1 q2 q3 q4 q5) (zg28_mg9 hn ha q1 q2 q3 q4 q5) (zg28_mg10 hn ha q1 q2 q3 q4 q5) (zg28_mg11 hn ha q1 q2 q3 q4 q5) (zg28_mg12 hn ha q1 q2 q3 q4 q5) (zg28_mg13 hn ha q1 q2 q3 q4 q5) (zg28_mg14 hn ha q1 q2 q3 q4 q5) (zg28_mg15 hn ha q1 q2 q3 q4 q5) (zg28_mg16 hn ha q1 q2 q3 q4 q5) (zg28_mg17 hn ha q1 q2 q3 q4 q5) (zg28_mg18 hn ha q1 q2 q3 q4 q5) (zg28_mg19 hn ha q1 q2 q3 q4 q5) (zg28_mg20 hn ha q1 q2 q3 q4 q5) (zg28_mg21 hn ha q1 q2 q3 q4 q5) (zg28_mg22 hn ha q1 q2 q3 q4 q5)
  rw [e] at c
  exact ⟨_, _, _, c, zyz28 q1 q2 q3 q4 q5 h (fun hT => zyt28_Key q1 q2 q3 q4 q5 hn hT) (fun hT => zyt28_Eng q1 q2 q3 q4 q5 hn hT) (fun hT => zyt28_Tok q1 q2 q3 q4 q5 hn hT) (fun hT => zyt28_Lea q1 q2 q3 q4 q5 hn hT) (fun hT => zyt28_LT q1 q2 q3 q4 q5 hn hT) (fun hT => zyt28_Use q1 q2 q3 q4 q5 hn hT) (fun hT => zyt28_Sto q1 q2 q3 q4 q5 hn hT) (fun hT => zyt28_Log q1 q2 q3 q4 q5 hn hT) (fun hT => zyt28_Sin q1 q2 q3 q4 q5 hn hT), (zpZ28 q1 q2 q3 q4 q5).1 1000 rfl⟩
theorem zyl29 {L n : Nat} {x4 : Int32} (u5 u6 : Option zV) {S : zS} (hn : n < 512) (h : zR n S S) (hx1 : zx L (x4 + 1)) (hx2 : zx L (x4 + 2)) (hx3 : zx L (x4 + 3)) (hx4 : zx L (x4 + 4)) (hx5 : zx L (x4 + 5)) (hx6 : zx L (x4 + 6)) (hx7 : zx L (x4 + 7)) (hx8 : zx L (x4 + 8)) : zOne L n 1306 x4 u5 u6 S := by
  obtain ⟨q1, hq1⟩ : ∃ q, S 1000 (x4 + 1).toNatClampNeg = q := ⟨_, rfl⟩
  obtain ⟨q2, hq2⟩ : ∃ q, S 1000 (x4 + 2).toNatClampNeg = q := ⟨_, rfl⟩
  obtain ⟨q3, hq3⟩ : ∃ q, S 1000 (x4 + 3).toNatClampNeg = q := ⟨_, rfl⟩
  obtain ⟨q4, hq4⟩ : ∃ q, S 1000 (x4 + 4).toNatClampNeg = q := ⟨_, rfl⟩
  obtain ⟨q5, hq5⟩ : ∃ q, S 1000 (x4 + 5).toNatClampNeg = q := ⟨_, rfl⟩
  have ha := zya29 q1 q2 q3 q4 q5 h
  have e := zye29 x4 u5 u6 q1 q2 q3 q4 q5 (zyr29 q1 q2 q3 q4 q5 hn ha) rfl
  have c := zyc29 L x4 u5 u6 S q1 q2 q3 q4 q5 hx1 hq1 hx2 hq2 hx3 hq3 hx4 hq4 hx5 hq5 (zg29_g0 hn h q1 q2 q3 q4 q5) (zg29_g1 hn h q1 q2 q3 q4 q5) (zg29_g2 hn h q1 q2 q3 q4 q5) (zg29_g3 hn h q1 q2 q3 q4 q5) (zg29_g4 hn h q1 q2 q3 q4 q5) (zg29_g5 hn h q1 q2 q3 q4 q5) (zg29_g6 hn h q1 q2 q3 q4 q5) (zg29_g7 hn h q1 q2 q3 q4 q5) (zg29_g8 hn h q1 q2 q3 q4 q5) (zg29_g9 hn h q1 q2 q3 q4 q5) (zg29_g10 hn h q1 q2 q3 q4 q5) (zg29_g11 hn h q1 q2 q3 q4 q5) (zg29_g12 hn h q1 q2 q3 q4 q5) (zg29_g13 hn h q1 q2 q3 q4 q5) (zg29_g14 hn h q1 q2 q3 q4 q5) (zg29_g15 hn h q1 q2 q3 q4 q5) (zg29_mg0 hn ha q1 q2 q3 q4 q5) (zg29_mg1 hn ha q1 q2 q3 q4 q5) (zg29_mg2 hn ha q1 q2 q3 q4 q5) (zg29_mg3 hn ha q1 q2 q3 q4 q5) (zg29_mg4 hn ha q1 q2 q3 q4 q5) (zg29_mg5 hn ha q1 q2 q3 q4 q5) (zg29_mg6 hn ha q1 q2 q3 q4 q5) (zg29_mg7 hn ha q1 q2 q3 q4 q5) (zg29_mg8 hn ha q1 q2 q3 q4 q5) (zg29_mg9 hn ha q1 q2 q3 q4 q5) (zg29_mg10 hn ha q1 q2 q3 q4 q5) (zg29_mg11 hn ha q1 q2 q3 q4 q5) (zg29_mg12 hn ha q1 q2 q3 q4 q5) (zg29_mg13 hn ha q1 q2 q3 q4 q5) (zg29_mg14 hn ha q1 q2 q3 q4 q5) (zg29_mg15 hn ha q1 q2 q3 q4 q5) (zg29_mg16 hn ha q1 q2 q3 q4 q5) (zg29_mg17 hn ha q1 q2 q3 q4 q5) (zg29_mg18 hn ha q1 q2 q3 q4 q5) (zg29_mg19 hn ha q1 q2 q3 q4 q5) (zg29_mg20 hn ha q1 q2 q3 q4 q5)
  rw [e] at c
  exact ⟨_, _, _, c, zyz29 q1 q2 q3 q4 q5 h (fun hT => zyt29_Eng q1 q2 q3 q4 q5 hn hT) (fun hT => zyt29_Tok q1 q2 q3 q4 q5 hn hT) (fun hT => zyt29_Lea q1 q2 q3 q4 q5 hn hT) (fun hT => zyt29_LT q1 q2 q3 q4 q5 hn hT) (fun hT => zyt29_Use q1 q2 q3 q4 q5 hn hT) (fun hT => zyt29_Sto q1 q2 q3 q4 q5 hn hT) (fun hT => zyt29_Log q1 q2 q3 q4 q5 hn hT) (fun hT => zyt29_Sin q1 q2 q3 q4 q5 hn hT), (zpZ29 q1 q2 q3 q4 q5).1 1000 rfl⟩
theorem zyl30 {L n : Nat} {x4 : Int32} (u5 u6 : Option zV) {S : zS} (hn : n < 512) (h : zR n S S) (hx1 : zx L (x4 + 1)) (hx2 : zx L (x4 + 2)) (hx3 : zx L (x4 + 3)) (hx4 : zx L (x4 + 4)) (hx5 : zx L (x4 + 5)) (hx6 : zx L (x4 + 6)) (hx7 : zx L (x4 + 7)) (hx8 : zx L (x4 + 8)) : zOne L n 1381 x4 u5 u6 S := by
  obtain ⟨q1, hq1⟩ : ∃ q, S 1000 (x4 + 1).toNatClampNeg = q := ⟨_, rfl⟩
  obtain ⟨q2, hq2⟩ : ∃ q, S 1000 (x4 + 2).toNatClampNeg = q := ⟨_, rfl⟩
  have ha := zya30 q1 q2 h
  have e := zye30 x4 u5 u6 q1 q2 (zyr30 q1 q2 hn ha) rfl
  have c := zyc30 L x4 u5 u6 S q1 q2 hx1 hq1 hx2 hq2 (zg30_g0 hn h q1 q2) (zg30_g1 hn h q1 q2) (zg30_mg0 hn ha q1 q2) (zg30_mg1 hn ha q1 q2) (zg30_mg2 hn ha q1 q2)
  rw [e] at c
  exact ⟨_, _, _, c, zyz30 q1 q2 h, (zpZ30 q1 q2).1 1000 rfl⟩
theorem zyl31 {L n : Nat} {x4 : Int32} (u5 u6 : Option zV) {S : zS} (hn : n < 512) (h : zR n S S) (hx1 : zx L (x4 + 1)) (hx2 : zx L (x4 + 2)) (hx3 : zx L (x4 + 3)) (hx4 : zx L (x4 + 4)) (hx5 : zx L (x4 + 5)) (hx6 : zx L (x4 + 6)) (hx7 : zx L (x4 + 7)) (hx8 : zx L (x4 + 8)) : zOne L n 1426 x4 u5 u6 S := by
  obtain ⟨q1, hq1⟩ : ∃ q, S 1000 (x4 + 1).toNatClampNeg = q := ⟨_, rfl⟩
  obtain ⟨q2, hq2⟩ : ∃ q, S 1000 (x4 + 2).toNatClampNeg = q := ⟨_, rfl⟩
  have ha := zya31 q1 q2 h
  have e := zye31 x4 u5 u6 q1 q2 (zyr31 q1 q2 hn ha) rfl
  have c := zyc31 L x4 u5 u6 S q1 q2 hx1 hq1 hx2 hq2 (zg31_g0 hn h q1 q2) (zg31_mg0 hn ha q1 q2)
  rw [e] at c
  exact ⟨_, _, _, c, zyz31 q1 q2 h (fun hT => zyt31_Lea q1 q2 hn hT), (zpZ31 q1 q2).1 1000 rfl⟩
theorem zyl32 {L n : Nat} {x4 : Int32} (u5 u6 : Option zV) {S : zS} (hn : n < 512) (h : zR n S S) (hx1 : zx L (x4 + 1)) (hx2 : zx L (x4 + 2)) (hx3 : zx L (x4 + 3)) (hx4 : zx L (x4 + 4)) (hx5 : zx L (x4 + 5)) (hx6 : zx L (x4 + 6)) (hx7 : zx L (x4 + 7)) (hx8 : zx L (x4 + 8)) : zOne L n 1471 x4 u5 u6 S := by
  obtain ⟨q1, hq1⟩ : ∃ q, S 1000 (x4 + 1).toNatClampNeg = q := ⟨_, rfl⟩
  obtain ⟨q2, hq2⟩ : ∃ q, S 1000 (x4 + 2).toNatClampNeg = q := ⟨_, rfl⟩
  obtain ⟨q3, hq3⟩ : ∃ q, S 1000 (x4 + 3).toNatClampNeg = q := ⟨_, rfl⟩
  obtain ⟨q4, hq4⟩ : ∃ q, S 1000 (x4 + 4).toNatClampNeg = q := ⟨_, rfl⟩
  obtain ⟨q5, hq5⟩ : ∃ q, S 1000 (x4 + 5).toNatClampNeg = q := ⟨_, rfl⟩
  have ha := zya32 q1 q2 q3 q4 q5 h
  have e := zye32 x4 u5 u6 q1 q2 q3 q4 q5 (zyr32 q1 q2 q3 q4 q5 hn ha) rfl
  have c := zyc32 L x4 u5 u6 S q1 q2 q3 q4 q5 hx1 hq1 hx2 hq2 hx3 hq3 hx4 hq4 hx5 hq5 (zg32_g0 hn h q1 q2 q3 q4 q5) (zg32_g1 hn h q1 q2 q3 q4 q5) (zg32_g2 hn h q1 q2 q3 q4 q5) (zg32_g3 hn h q1 q2 q3 q4 q5) (zg32_g4 hn h q1 q2 q3 q4 q5) (zg32_g5 hn h q1 q2 q3 q4 q5) (zg32_g6 hn h q1 q2 q3 q4 q5) (zg32_g7 hn h q1 q2 q3 q4 q5) (zg32_g8 hn h q1 q2 q3 q4 q5) (zg32_g9 hn h q1 q2 q3 q4 q5) (zg32_g10 hn h q1 q2 q3 q4 q5) (zg32_g11 hn h q1 q2 q3 q4 q5) (zg32_g12 hn h q1 q2 q3 q4 q5) (zg32_g13 hn h q1 q2 q3 q4 q5) (zg32_g14 hn h q1 q2 q3 q4 q5) (zg32_g15 hn h q1 q2 q3 q4 q5) (zg32_mg0 hn ha q1 q2 q3 q4 q5) (zg32_mg1 hn ha q1 q2 q3 q4 q5) (zg32_mg2 hn ha q1 q2 q3 q4 q5) (zg32_mg3 hn ha q1 q2 q3 q4 q5) (zg32_mg4 hn ha q1 q2 q3 q4 q5) (zg32_mg5 hn ha q1 q2 q3 q4 q5) (zg32_mg6 hn ha q1 q2 q3 q4 q5) (zg32_mg7 hn ha q1 q2 q3 q4 q5) (zg32_mg8 hn ha q1 q2 q3 q4 q5) (zg32_mg9 hn ha q1 q2 q3 q4 q5) (zg32_mg10 hn ha q1 q2 q3 q4 q5) (zg32_mg11 hn ha q1 q2 q3 q4 q5) (zg32_mg12 hn ha q1 q2 q3 q4 q5) (zg32_mg13 hn ha q1 q2 q3 q4 q5) (zg32_mg14 hn ha q1 q2 q3 q4 q5) (zg32_mg15 hn ha q1 q2 q3 q4 q5) (zg32_mg16 hn ha q1 q2 q3 q4 q5) (zg32_mg17 hn ha q1 q2 q3 q4 q5) (zg32_mg18 hn ha q1 q2 q3 q4 q5) (zg32_mg19 hn ha q1 q2 q3 q4 q5)
  rw [e] at c
  exact ⟨_, _, _, c, zyz32 q1 q2 q3 q4 q5 h (fun hT => zyt32_Eng q1 q2 q3 q4 q5 hn hT) (fun hT => zyt32_Tok q1 q2 q3 q4 q5 hn hT) (fun hT => zyt32_Lea q1 q2 q3 q4 q5 hn hT) (fun hT => zyt32_LT q1 q2 q3 q4 q5 hn hT) (fun hT => zyt32_Use q1 q2 q3 q4 q5 hn hT) (fun hT => zyt32_Sin q1 q2 q3 q4 q5 hn hT), (zpZ32 q1 q2 q3 q4 q5).1 1000 rfl⟩
theorem zyl33 {L n : Nat} {x4 : Int32} (u5 u6 : Option zV) {S : zS} (hn : n < 512) (h : zR n S S) (hx1 : zx L (x4 + 1)) (hx2 : zx L (x4 + 2)) (hx3 : zx L (x4 + 3)) (hx4 : zx L (x4 + 4)) (hx5 : zx L (x4 + 5)) (hx6 : zx L (x4 + 6)) (hx7 : zx L (x4 + 7)) (hx8 : zx L (x4 + 8)) : zOne L n 1546 x4 u5 u6 S := by
  obtain ⟨q1, hq1⟩ : ∃ q, S 1000 (x4 + 1).toNatClampNeg = q := ⟨_, rfl⟩
  obtain ⟨q2, hq2⟩ : ∃ q, S 1000 (x4 + 2).toNatClampNeg = q := ⟨_, rfl⟩
  have ha := zya33 q1 q2 h
  have e := zye33 x4 u5 u6 q1 q2 (zyr33 q1 q2 hn ha) rfl
  have c := zyc33 L x4 u5 u6 S q1 q2 hx1 hq1 hx2 hq2 (zg33_g0 hn h q1 q2) (zg33_g1 hn h q1 q2) (zg33_g2 hn h q1 q2) (zg33_mg0 hn ha q1 q2) (zg33_mg1 hn ha q1 q2)
  rw [e] at c
  exact ⟨_, _, _, c, zyz33 q1 q2 h (fun hT => zyt33_Lea q1 q2 hn hT), (zpZ33 q1 q2).1 1000 rfl⟩
theorem zyl34 {L n : Nat} {x4 : Int32} (u5 u6 : Option zV) {S : zS} (hn : n < 512) (h : zR n S S) (hx1 : zx L (x4 + 1)) (hx2 : zx L (x4 + 2)) (hx3 : zx L (x4 + 3)) (hx4 : zx L (x4 + 4)) (hx5 : zx L (x4 + 5)) (hx6 : zx L (x4 + 6)) (hx7 : zx L (x4 + 7)) (hx8 : zx L (x4 + 8)) : zOne L n 1591 x4 u5 u6 S := by
  obtain ⟨q1, hq1⟩ : ∃ q, S 1000 (x4 + 1).toNatClampNeg = q := ⟨_, rfl⟩
  obtain ⟨q2, hq2⟩ : ∃ q, S 1000 (x4 + 2).toNatClampNeg = q := ⟨_, rfl⟩
  have ha := zya34 q1 q2 h
  have e := zye34 x4 u5 u6 q1 q2 (zyr34 q1 q2 hn ha) rfl
  have c := zyc34 L x4 u5 u6 S q1 q2 hx1 hq1 hx2 hq2 (zg34_g0 hn h q1 q2) (zg34_g1 hn h q1 q2) (zg34_mg0 hn ha q1 q2) (zg34_mg1 hn ha q1 q2)
  rw [e] at c
  exact ⟨_, _, _, c, zyz34 q1 q2 h (fun hT => zyt34_Lea q1 q2 hn hT) (fun hT => zyt34_LT q1 q2 hn hT), (zpZ34 q1 q2).1 1000 rfl⟩
theorem zyl35 {L n : Nat} {x4 : Int32} (u5 u6 : Option zV) {S : zS} (hn : n < 512) (h : zR n S S) (hx1 : zx L (x4 + 1)) (hx2 : zx L (x4 + 2)) (hx3 : zx L (x4 + 3)) (hx4 : zx L (x4 + 4)) (hx5 : zx L (x4 + 5)) (hx6 : zx L (x4 + 6)) (hx7 : zx L (x4 + 7)) (hx8 : zx L (x4 + 8)) : zOne L n 1636 x4 u5 u6 S := by
  obtain ⟨q1, hq1⟩ : ∃ q, S 1000 (x4 + 1).toNatClampNeg = q := ⟨_, rfl⟩
  have ha := zya35 q1 h
  have e := zye35 x4 u5 u6 q1 (zyr35 q1 hn ha) rfl
  have c := zyc35 L x4 u5 u6 S q1 hx1 hq1 (zg35_g0 hn h q1) (zg35_mg0 hn ha q1)
  rw [e] at c
  exact ⟨_, _, _, c, zyz35 q1 h, (zpZ35 q1).1 1000 rfl⟩
theorem zyl36 {L n : Nat} {x4 : Int32} (u5 u6 : Option zV) {S : zS} (hn : n < 512) (h : zR n S S) (hx1 : zx L (x4 + 1)) (hx2 : zx L (x4 + 2)) (hx3 : zx L (x4 + 3)) (hx4 : zx L (x4 + 4)) (hx5 : zx L (x4 + 5)) (hx6 : zx L (x4 + 6)) (hx7 : zx L (x4 + 7)) (hx8 : zx L (x4 + 8)) : zOne L n 1671 x4 u5 u6 S := by
  obtain ⟨q1, hq1⟩ : ∃ q, S 1000 (x4 + 1).toNatClampNeg = q := ⟨_, rfl⟩
  have ha := zya36 q1 h
  have e := zye36 x4 u5 u6 q1 (zyr36 q1 hn ha) rfl
  have c := zyc36 L x4 u5 u6 S q1 hx1 hq1 (zg36_g0 hn h q1) (zg36_mg0 hn ha q1)
  rw [e] at c
  exact ⟨_, _, _, c, zyz36 q1 h, (zpZ36 q1).1 1000 rfl⟩
theorem zyl37 {L n : Nat} {x4 : Int32} (u5 u6 : Option zV) {S : zS} (hn : n < 512) (h : zR n S S) (hx1 : zx L (x4 + 1)) (hx2 : zx L (x4 + 2)) (hx3 : zx L (x4 + 3)) (hx4 : zx L (x4 + 4)) (hx5 : zx L (x4 + 5)) (hx6 : zx L (x4 + 6)) (hx7 : zx L (x4 + 7)) (hx8 : zx L (x4 + 8)) : zOne L n 1706 x4 u5 u6 S := by
  obtain ⟨q1, hq1⟩ : ∃ q, S 1000 (x4 + 1).toNatClampNeg = q := ⟨_, rfl⟩
  have ha := zya37 q1 h
  have e := zye37 x4 u5 u6 q1 (zyr37 q1 hn ha) rfl
  have c := zyc37 L x4 u5 u6 S q1 hx1 hq1 (zg37_g0 hn h q1) (zg37_mg0 hn ha q1)
  rw [e] at c
  exact ⟨_, _, _, c, zyz37 q1 h, (zpZ37 q1).1 1000 rfl⟩
theorem zyl38 {L n : Nat} {x4 : Int32} (u5 u6 : Option zV) {S : zS} (hn : n < 512) (h : zR n S S) (hx1 : zx L (x4 + 1)) (hx2 : zx L (x4 + 2)) (hx3 : zx L (x4 + 3)) (hx4 : zx L (x4 + 4)) (hx5 : zx L (x4 + 5)) (hx6 : zx L (x4 + 6)) (hx7 : zx L (x4 + 7)) (hx8 : zx L (x4 + 8)) : zOne L n 1741 x4 u5 u6 S := by
  obtain ⟨q1, hq1⟩ : ∃ q, S 1000 (x4 + 1).toNatClampNeg = q := ⟨_, rfl⟩
  have ha := zya38 q1 h
  have e := zye38 x4 u5 u6 q1 (zyr38 q1 hn ha) rfl
  have c := zyc38 L x4 u5 u6 S q1 hx1 hq1 (zg38_g0 hn h q1) (zg38_g1 hn h q1) (zg38_mg0 hn ha q1) (zg38_mg1 hn ha q1)
  rw [e] at c
  exact ⟨_, _, _, c, zyz38 q1 h, (zpZ38 q1).1 1000 rfl⟩
theorem zyl39 {L n : Nat} {x4 : Int32} (u5 u6 : Option zV) {S : zS} (hn : n < 512) (h : zR n S S) (hx1 : zx L (x4 + 1)) (hx2 : zx L (x4 + 2)) (hx3 : zx L (x4 + 3)) (hx4 : zx L (x4 + 4)) (hx5 : zx L (x4 + 5)) (hx6 : zx L (x4 + 6)) (hx7 : zx L (x4 + 7)) (hx8 : zx L (x4 + 8)) : zOne L n 1776 x4 u5 u6 S := by
  obtain ⟨q1, hq1⟩ : ∃ q, S 1000 (x4 + 1).toNatClampNeg = q := ⟨_, rfl⟩
  obtain ⟨q2, hq2⟩ : ∃ q, S 1000 (x4 + 2).toNatClampNeg = q := ⟨_, rfl⟩
  obtain ⟨q3, hq3⟩ : ∃ q, S 1000 (x4 + 3).toNatClampNeg = q := ⟨_, rfl⟩
  obtain ⟨q4, hq4⟩ : ∃ q, S 1000 (x4 + 4).toNatClampNeg = q := ⟨_, rfl⟩
  have ha := zya39 q1 q2 q3 q4 h
  have e := zye39 x4 u5 u6 q1 q2 q3 q4 (zyr39 q1 q2 q3 q4 hn ha) rfl
  have c := zyc39 L x4 u5 u6 S q1 q2 q3 q4 hx1 hq1 hx2 hq2 hx3 hq3 hx4 hq4 (zg39_g0 hn h q1 q2 q3 q4) (zg39_g1 hn h q1 q2 q3 q4) (zg39_g2 hn h q1 q2 q3 q4) (zg39_g3 hn h q1 q2 q3 q4) (zg39_g4 hn h q1 q2 q3 q4) (zg39_g5 hn h q1 q2 q3 q4) (zg39_g6 hn h q1 q2 q3 q4) (zg39_g7 hn h q1 q2 q3 q4) (zg39_g8 hn h q1 q2 q3 q4) (zg39_g9 hn h q1 q2 q3 q4) (zg39_g10 hn h q1 q2 q3 q4) (zg39_g11 hn h q1 q2 q3 q4) (zg39_g12 hn h q1 q2 q3 q4) (zg39_g13 hn h q1 q2 q3 q4) (zg39_g14 hn h q1 q2 q3 q4) (zg39_g15 hn h q1 q2 q3 q4) (zg39_g16 hn h q1 q2 q3 q4) (zg39_g17 hn h q1 q2 q3 q4) (zg39_g18 hn h q1 q2 q3 q4) (zg39_mg0 hn ha q1 q2 q3 q4) (zg39_mg1 hn ha q1 q2 q3 q4) (zg39_mg2 hn ha q1 q2 q3 q4) (zg39_mg3 hn ha q1 q2 q3 q4) (zg39_mg4 hn ha q1 q2 q3 q4) (zg39_mg5 hn ha q1 q2 q3 q4) (zg39_mg6 hn ha q1 q2 q3 q4) (zg39_mg7 hn ha q1 q2 q3 q4) (zg39_mg8 hn ha q1 q2 q3 q4) (zg39_mg9 hn ha q1 q2 q3 q4) (zg39_mg10 hn ha q1 q2 q3 q4) (zg39_mg11 hn ha q1 q2 q3 q4) (zg39_mg12 hn ha q1 q2 q3 q4) (zg39_mg13 hn ha q1 q2 q3 q4) (zg39_mg14 hn ha q1 q2 q3 q4) (zg39_mg15 hn ha q1 q2 q3 q4) (zg39_mg16 hn ha q1 q2 q3 q4) (zg39_mg17 hn ha q1 q2 q3 q4) (zg39_mg18 hn ha q1 q2 q3 q4) (zg39_mg19 hn ha q1 q2 q3 q4) (zg39_mg20 hn ha q1 q2 q3 q4) (zg39_mg21 hn ha q1 q2 q3 q4) (zg39_mg22 hn ha q1 q2 q3 q4) (zg39_mg23 hn ha q1 q2 q3 q4)
  rw [e] at c
  exact ⟨_, _, _, c, zyz39 q1 q2 q3 q4 h (fun hT => zyt39_Eng q1 q2 q3 q4 hn hT) (fun hT => zyt39_Tok q1 q2 q3 q4 hn hT) (fun hT => zyt39_Lea q1 q2 q3 q4 hn hT) (fun hT => zyt39_LT q1 q2 q3 q4 hn hT) (fun hT => zyt39_Use q1 q2 q3 q4 hn hT) (fun hT => zyt39_Wra q1 q2 q3 q4 hn hT) (fun hT => zyt39_Cas q1 q2 q3 q4 hn hT) (fun hT => zyt39_Sin q1 q2 q3 q4 hn hT), (zpZ39 q1 q2 q3 q4).1 1000 rfl⟩
theorem zyl40 {L n : Nat} {x4 : Int32} (u5 u6 : Option zV) {S : zS} (hn : n < 512) (h : zR n S S) (hx1 : zx L (x4 + 1)) (hx2 : zx L (x4 + 2)) (hx3 : zx L (x4 + 3)) (hx4 : zx L (x4 + 4)) (hx5 : zx L (x4 + 5)) (hx6 : zx L (x4 + 6)) (hx7 : zx L (x4 + 7)) (hx8 : zx L (x4 + 8)) : zOne L n 1841 x4 u5 u6 S := by
  obtain ⟨q1, hq1⟩ : ∃ q, S 1000 (x4 + 1).toNatClampNeg = q := ⟨_, rfl⟩
  have ha := zya40 q1 h
  have e := zye40 x4 u5 u6 q1 (zyr40 q1 hn ha) rfl
  have c := zyc40 L x4 u5 u6 S q1 hx1 hq1 (zg40_g0 hn h q1) (zg40_g1 hn h q1) (zg40_mg0 hn ha q1)
  rw [e] at c
  exact ⟨_, _, _, c, zyz40 q1 h (fun hT => zyt40_Wra q1 hn hT), (zpZ40 q1).1 1000 rfl⟩
theorem zyl41 {L n : Nat} {x4 : Int32} (u5 u6 : Option zV) {S : zS} (hn : n < 512) (h : zR n S S) (hx1 : zx L (x4 + 1)) (hx2 : zx L (x4 + 2)) (hx3 : zx L (x4 + 3)) (hx4 : zx L (x4 + 4)) (hx5 : zx L (x4 + 5)) (hx6 : zx L (x4 + 6)) (hx7 : zx L (x4 + 7)) (hx8 : zx L (x4 + 8)) : zOne L n 1876 x4 u5 u6 S := by
  obtain ⟨q1, hq1⟩ : ∃ q, S 1000 (x4 + 1).toNatClampNeg = q := ⟨_, rfl⟩
  obtain ⟨q2, hq2⟩ : ∃ q, S 1000 (x4 + 2).toNatClampNeg = q := ⟨_, rfl⟩
  obtain ⟨q3, hq3⟩ : ∃ q, S 1000 (x4 + 3).toNatClampNeg = q := ⟨_, rfl⟩
  have ha := zya41 q1 q2 q3 h
  have e := zye41 x4 u5 u6 q1 q2 q3 (zyr41 q1 q2 q3 hn ha) rfl
  have c := zyc41 L x4 u5 u6 S q1 q2 q3 hx1 hq1 hx2 hq2 hx3 hq3 (zg41_g0 hn h q1 q2 q3) (zg41_g1 hn h q1 q2 q3) (zg41_g2 hn h q1 q2 q3) (zg41_g3 hn h q1 q2 q3) (zg41_g4 hn h q1 q2 q3) (zg41_g5 hn h q1 q2 q3) (zg41_g6 hn h q1 q2 q3) (zg41_g7 hn h q1 q2 q3) (zg41_g8 hn h q1 q2 q3) (zg41_g9 hn h q1 q2 q3) (zg41_g10 hn h q1 q2 q3) (zg41_g11 hn h q1 q2 q3) (zg41_g12 hn h q1 q2 q3) (zg41_g13 hn h q1 q2 q3) (zg41_g14 hn h q1 q2 q3) (zg41_mg0 hn ha q1 q2 q3) (zg41_mg1 hn ha q1 q2 q3) (zg41_mg2 hn ha q1 q2 q3) (zg41_mg3 hn ha q1 q2 q3) (zg41_mg4 hn ha q1 q2 q3) (zg41_mg5 hn ha q1 q2 q3) (zg41_mg6 hn ha q1 q2 q3) (zg41_mg7 hn ha q1 q2 q3) (zg41_mg8 hn ha q1 q2 q3) (zg41_mg9 hn ha q1 q2 q3) (zg41_mg10 hn ha q1 q2 q3) (zg41_mg11 hn ha q1 q2 q3) (zg41_mg12 hn ha q1 q2 q3) (zg41_mg13 hn ha q1 q2 q3) (zg41_mg14 hn ha q1 q2 q3) (zg41_mg15 hn ha q1 q2 q3) (zg41_mg16 hn ha q1 q2 q3) (zg41_mg17 hn ha q1 q2 q3) (zg41_mg18 hn ha q1 q2 q3)
  rw [e] at c
  exact ⟨_, _, _, c, zyz41 q1 q2 q3 h (fun hT => zyt41_Eng q1 q2 q3 hn hT) (fun hT => zyt41_Tok q1 q2 q3 hn hT) (fun hT => zyt41_Lea q1 q2 q3 hn hT) (fun hT => zyt41_LT q1 q2 q3 hn hT) (fun hT => zyt41_Use q1 q2 q3 hn hT) (fun hT => zyt41_Cas q1 q2 q3 hn hT) (fun hT => zyt41_Sin q1 q2 q3 hn hT), (zpZ41 q1 q2 q3).1 1000 rfl⟩
theorem zyl42 {L n : Nat} {x4 : Int32} (u5 u6 : Option zV) {S : zS} (hn : n < 512) (h : zR n S S) (hx1 : zx L (x4 + 1)) (hx2 : zx L (x4 + 2)) (hx3 : zx L (x4 + 3)) (hx4 : zx L (x4 + 4)) (hx5 : zx L (x4 + 5)) (hx6 : zx L (x4 + 6)) (hx7 : zx L (x4 + 7)) (hx8 : zx L (x4 + 8)) : zOne L n 1931 x4 u5 u6 S := by
  obtain ⟨q1, hq1⟩ : ∃ q, S 1000 (x4 + 1).toNatClampNeg = q := ⟨_, rfl⟩
  obtain ⟨q2, hq2⟩ : ∃ q, S 1000 (x4 + 2).toNatClampNeg = q := ⟨_, rfl⟩
  obtain ⟨q3, hq3⟩ : ∃ q, S 1000 (x4 + 3).toNatClampNeg = q := ⟨_, rfl⟩
  have ha := zya42 q1 q2 q3 h
  have e := zye42 x4 u5 u6 q1 q2 q3 (zyr42 q1 q2 q3 hn ha) rfl
  have c := zyc42 L x4 u5 u6 S q1 q2 q3 hx1 hq1 hx2 hq2 hx3 hq3 (zg42_g0 hn h q1 q2 q3) (zg42_g1 hn h q1 q2 q3) (zg42_g2 hn h q1 q2 q3) (zg42_g3 hn h q1 q2 q3) (zg42_g4 hn h q1 q2 q3) (zg42_g5 hn h q1 q2 q3) (zg42_g6 hn h q1 q2 q3) (zg42_g7 hn h q1 q2 q3) (zg42_g8 hn h q1 q2 q3) (zg42_g9 hn h q1 q2 q3) (zg42_g10 hn h q1 q2 q3) (zg42_g11 hn h q1 q2 q3) (zg42_g12 hn h q1 q2 q3) (zg42_g13 hn h q1 q2 q3) (zg42_g14 hn h q1 q2 q3) (zg42_g15 hn h q1 q2 q3) (zg42_mg0 hn ha q1 q2 q3) (zg42_mg1 hn ha q1 q2 q3) (zg42_mg2 hn ha q1 q2 q3) (zg42_mg3 hn ha q1 q2 q3) (zg42_mg4 hn ha q1 q2 q3) (zg42_mg5 hn ha q1 q2 q3) (zg42_mg6 hn ha q1 q2 q3) (zg42_mg7 hn ha q1 q2 q3) (zg42_mg8 hn ha q1 q2 q3) (zg42_mg9 hn ha q1 q2 q3) (zg42_mg10 hn ha q1 q2 q3) (zg42_mg11 hn ha q1 q2 q3) (zg42_mg12 hn ha q1 q2 q3) (zg42_mg13 hn ha q1 q2 q3) (zg42_mg14 hn ha q1 q2 q3) (zg42_mg15 hn ha q1 q2 q3) (zg42_mg16 hn ha q1 q2 q3) (zg42_mg17 hn ha q1 q2 q3) (zg42_mg18 hn ha q1 q2 q3) (zg42_mg19 hn ha q1 q2 q3) (zg42_mg20 hn ha q1 q2 q3)
  rw [e] at c
  exact ⟨_, _, _, c, zyz42 q1 q2 q3 h (fun hT => zyt42_Eng q1 q2 q3 hn hT) (fun hT => zyt42_Tok q1 q2 q3 hn hT) (fun hT => zyt42_Lea q1 q2 q3 hn hT) (fun hT => zyt42_LT q1 q2 q3 hn hT) (fun hT => zyt42_Use q1 q2 q3 hn hT) (fun hT => zyt42_Cas q1 q2 q3 hn hT) (fun hT => zyt42_Sin q1 q2 q3 hn hT), (zpZ42 q1 q2 q3).1 1000 rfl⟩
theorem zyl43 {L n : Nat} {x4 : Int32} (u5 u6 : Option zV) {S : zS} (hn : n < 512) (h : zR n S S) (hx1 : zx L (x4 + 1)) (hx2 : zx L (x4 + 2)) (hx3 : zx L (x4 + 3)) (hx4 : zx L (x4 + 4)) (hx5 : zx L (x4 + 5)) (hx6 : zx L (x4 + 6)) (hx7 : zx L (x4 + 7)) (hx8 : zx L (x4 + 8)) : zOne L n 1986 x4 u5 u6 S := by
  have ha := zya43  h
  have e := zye43 x4 u5 u6 (zyr43  hn ha)
  have c := zyc43 L x4 u5 u6 S
  rw [e] at c
  exact ⟨_, _, _, c, zyz43 h, (zpZ43 ).1 1000 rfl⟩
theorem zyl44 {L n : Nat} {x4 : Int32} (u5 u6 : Option zV) {S : zS} (hn : n < 512) (h : zR n S S) (hx1 : zx L (x4 + 1)) (hx2 : zx L (x4 + 2)) (hx3 : zx L (x4 + 3)) (hx4 : zx L (x4 + 4)) (hx5 : zx L (x4 + 5)) (hx6 : zx L (x4 + 6)) (hx7 : zx L (x4 + 7)) (hx8 : zx L (x4 + 8)) : zOne L n 1993 x4 u5 u6 S := by
  obtain ⟨q1, hq1⟩ : ∃ q, S 1000 (x4 + 1).toNatClampNeg = q := ⟨_, rfl⟩
  obtain ⟨q2, hq2⟩ : ∃ q, S 1000 (x4 + 2).toNatClampNeg = q := ⟨_, rfl⟩
  obtain ⟨q3, hq3⟩ : ∃ q, S 1000 (x4 + 3).toNatClampNeg = q := ⟨_, rfl⟩
  obtain ⟨q4, hq4⟩ : ∃ q, S 1000 (x4 + 4).toNatClampNeg = q := ⟨_, rfl⟩
  have ha := zya44 q1 q2 q3 q4 h
  have e := zye44 x4 u5 u6 q1 q2 q3 q4 (zyr44 q1 q2 q3 q4 hn ha) rfl
  have c := zyc44 L x4 u5 u6 S q1 q2 q3 q4 hx1 hq1 hx2 hq2 hx3 hq3 hx4 hq4 (zg44_g0 hn h q1 q2 q3 q4) (zg44_g1 hn h q1 q2 q3 q4) (zg44_g2 hn h q1 q2 q3 q4) (zg44_g3 hn h q1 q2 q3 q4) (zg44_g4 hn h q1 q2 q3 q4) (zg44_g5 hn h q1 q2 q3 q4) (zg44_g6 hn h q1 q2 q3 q4) (zg44_g7 hn h q1 q2 q3 q4) (zg44_g8 hn h q1 q2 q3 q4) (zg44_g9 hn h q1 q2 q3 q4) (zg44_g10 hn h q1 q2 q3 q4) (zg44_g11 hn h q1 q2 q3 q4) (zg44_g12 hn h q1 q2 q3 q4) (zg44_g13 hn h q1 q2 q3 q4) (zg44_g14 hn h q1 q2 q3 q4) (zg44_g15 hn h q1 q2 q3 q4) (zg44_g16 hn h q1 q2 q3 q4) (zg44_g17 hn h q1 q2 q3 q4) (zg44_g18 hn h q1 q2 q3 q4) (zg44_mg0 hn ha q1 q2 q3 q4) (zg44_mg1 hn ha q1 q2 q3 q4) (zg44_mg2 hn ha q1 q2 q3 q4) (zg44_mg3 hn ha q1 q2 q3 q4) (zg44_mg4 hn ha q1 q2 q3 q4) (zg44_mg5 hn ha q1 q2 q3 q4) (zg44_mg6 hn ha q1 q2 q3 q4) (zg44_mg7 hn ha q1 q2 q3 q4) (zg44_mg8 hn ha q1 q2 q3 q4) (zg44_mg9 hn ha q1 q2 q3 q4) (zg44_mg10 hn ha q1 q2 q3 q4) (zg44_mg11 hn ha q1 q2 q3 q4) (zg44_mg12 hn ha q1 q2 q3 q4) (zg44_mg13 hn ha q1 q2 q3 q4) (zg44_mg14 hn ha q1 q2 q3 q4) (zg44_mg15 hn ha q1 q2 q3 q4) (zg44_mg16 hn ha q1 q2 q3 q4) (zg44_mg17 hn ha q1 q2 q3 q4) (zg44_mg18 hn ha q1 q2 q3 q4) (zg44_mg19 hn ha q1 q2 q3 q4) (zg44_mg20 hn ha q1 q2 q3 q4) (zg44_mg21 hn ha q1 q2 q3 q4) (zg44_mg22 hn ha q1 q2 q3 q4)
  rw [e] at c
  exact ⟨_, _, _, c, zyz44 q1 q2 q3 q4 h (fun hT => zyt44_Eng q1 q2 q3 q4 hn hT) (fun hT => zyt44_Tok q1 q2 q3 q4 hn hT) (fun hT => zyt44_Lea q1 q2 q3 q4 hn hT) (fun hT => zyt44_LT q1 q2 q3 q4 hn hT) (fun hT => zyt44_Use q1 q2 q3 q4 hn hT) (fun hT => zyt44_Cer q1 q2 q3 q4 hn hT) (fun hT => zyt44_Sin q1 q2 q3 q4 hn hT), (zpZ44 q1 q2 q3 q4).1 1000 rfl⟩
theorem zyl45 {L n : Nat} {x4 : Int32} (u5 u6 : Option zV) {S : zS} (hn : n < 512) (h : zR n S S) (hx1 : zx L (x4 + 1)) (hx2 : zx L (x4 + 2)) (hx3 : zx L (x4 + 3)) (hx4 : zx L (x4 + 4)) (hx5 : zx L (x4 + 5)) (hx6 : zx L (x4 + 6)) (hx7 : zx L (x4 + 7)) (hx8 : zx L (x4 + 8)) : zOne L n 2058 x4 u5 u6 S := by
  obtain ⟨q1, hq1⟩ : ∃ q, S 1000 (x4 + 1).toNatClampNeg = q := ⟨_, rfl⟩
  have ha := zya45 q1 h
  have e := zye45 x4 u5 u6 q1 (zyr45 q1 hn ha) rfl
  have c := zyc45 L x4 u5 u6 S q1 hx1 hq1 (zg45_g0 hn h q1) (zg45_mg0 hn ha q1)
  rw [e] at c
  exact ⟨_, _, _, c, zyz45 q1 h (fun hT => zyt45_Cer q1 hn hT), (zpZ45 q1).1 1000 rfl⟩
theorem zyl46 {L n : Nat} {x4 : Int32} (u5 u6 : Option zV) {S : zS} (hn : n < 512) (h : zR n S S) (hx1 : zx L (x4 + 1)) (hx2 : zx L (x4 + 2)) (hx3 : zx L (x4 + 3)) (hx4 : zx L (x4 + 4)) (hx5 : zx L (x4 + 5)) (hx6 : zx L (x4 + 6)) (hx7 : zx L (x4 + 7)) (hx8 : zx L (x4 + 8)) : zOne L n 2096 x4 u5 u6 S := by
  have ha := zya46  h
  have e := zye46 x4 u5 u6 (zyr46  hn ha)
  have c := zyc46 L x4 u5 u6 S (zg46_g0 hn h ) (zg46_mg0 hn ha )
  rw [e] at c
  exact ⟨_, _, _, c, zyz46 h (fun hT => zyt46_Cer  hn hT), (zpZ46 ).1 1000 rfl⟩
theorem zyl47 {L n : Nat} {x4 : Int32} (u5 u6 : Option zV) {S : zS} (hn : n < 512) (h : zR n S S) (hx1 : zx L (x4 + 1)) (hx2 : zx L (x4 + 2)) (hx3 : zx L (x4 + 3)) (hx4 : zx L (x4 + 4)) (hx5 : zx L (x4 + 5)) (hx6 : zx L (x4 + 6)) (hx7 : zx L (x4 + 7)) (hx8 : zx L (x4 + 8)) : zOne L n 2103 x4 u5 u6 S := by
  obtain ⟨q1, hq1⟩ : ∃ q, S 1000 (x4 + 1).toNatClampNeg = q := ⟨_, rfl⟩
  have ha := zya47 q1 h
  have e := zye47 x4 u5 u6 q1 (zyr47 q1 hn ha) rfl
  have c := zyc47 L x4 u5 u6 S q1 hx1 hq1 (zg47_g0 hn h q1) (zg47_g1 hn h q1) (zg47_mg0 hn ha q1) (zg47_mg1 hn ha q1)
  rw [e] at c
  exact ⟨_, _, _, c, zyz47 q1 h, (zpZ47 q1).1 1000 rfl⟩
theorem zyl48 {L n : Nat} {x4 : Int32} (u5 u6 : Option zV) {S : zS} (hn : n < 512) (h : zR n S S) (hx1 : zx L (x4 + 1)) (hx2 : zx L (x4 + 2)) (hx3 : zx L (x4 + 3)) (hx4 : zx L (x4 + 4)) (hx5 : zx L (x4 + 5)) (hx6 : zx L (x4 + 6)) (hx7 : zx L (x4 + 7)) (hx8 : zx L (x4 + 8)) : zOne L n 2141 x4 u5 u6 S := by
  obtain ⟨q1, hq1⟩ : ∃ q, S 1000 (x4 + 1).toNatClampNeg = q := ⟨_, rfl⟩
  have ha := zya48 q1 h
  have e := zye48 x4 u5 u6 q1 (zyr48 q1 hn ha) rfl
  have c := zyc48 L x4 u5 u6 S q1 hx1 hq1 (zg48_g0 hn h q1) (zg48_mg0 hn ha q1)
  rw [e] at c
  exact ⟨_, _, _, c, zyz48 q1 h, (zpZ48 q1).1 1000 rfl⟩
theorem zyl49 {L n : Nat} {x4 : Int32} (u5 u6 : Option zV) {S : zS} (hn : n < 512) (h : zR n S S) (hx1 : zx L (x4 + 1)) (hx2 : zx L (x4 + 2)) (hx3 : zx L (x4 + 3)) (hx4 : zx L (x4 + 4)) (hx5 : zx L (x4 + 5)) (hx6 : zx L (x4 + 6)) (hx7 : zx L (x4 + 7)) (hx8 : zx L (x4 + 8)) : zOne L n 2176 x4 u5 u6 S := by
  obtain ⟨q1, hq1⟩ : ∃ q, S 1000 (x4 + 1).toNatClampNeg = q := ⟨_, rfl⟩
  obtain ⟨q2, hq2⟩ : ∃ q, S 1000 (x4 + 2).toNatClampNeg = q := ⟨_, rfl⟩
  obtain ⟨q3, hq3⟩ : ∃ q, S 1000 (x4 + 3).toNatClampNeg = q := ⟨_, rfl⟩
  obtain ⟨q4, hq4⟩ : ∃ q, S 1000 (x4 + 4).toNatClampNeg = q := ⟨_, rfl⟩
  have ha := zya49 q1 q2 q3 q4 h
  have e := zye49 x4 u5 u6 q1 q2 q3 q4 (zyr49 q1 q2 q3 q4 hn ha) rfl
  have c := zyc49 L x4 u5 u6 S q1 q2 q3 q4 hx1 hq1 hx2 hq2 hx3 hq3 hx4 hq4 (zg49_g0 hn h q1 q2 q3 q4) (zg49_g1 hn h q1 q2 q3 q4) (zg49_mg0 hn ha q1 q2 q3 q4) (zg49_mg1 hn ha q1 q2 q3 q4)
  rw [e] at c
  exact ⟨_, _, _, c, zyz49 q1 q2 q3 q4 h (fun hT => zyt49_Sin q1 q2 q3 q4 hn hT), (zpZ49 q1 q2 q3 q4).1 1000 rfl⟩
theorem zyl50 {L n : Nat} {x4 : Int32} (u5 u6 : Option zV) {S : zS} (hn : n < 512) (h : zR n S S) (hx1 : zx L (x4 + 1)) (hx2 : zx L (x4 + 2)) (hx3 : zx L (x4 + 3)) (hx4 : zx L (x4 + 4)) (hx5 : zx L (x4 + 5)) (hx6 : zx L (x4 + 6)) (hx7 : zx L (x4 + 7)) (hx8 : zx L (x4 + 8)) : zOne L n 2260 x4 u5 u6 S := by
  obtain ⟨q1, hq1⟩ : ∃ q, S 1000 (x4 + 1).toNatClampNeg = q := ⟨_, rfl⟩
  have ha := zya50 q1 h
  have e := zye50 x4 u5 u6 q1 (zyr50 q1 hn ha) rfl
  have c := zyc50 L x4 u5 u6 S q1 hx1 hq1 (zg50_g0 hn h q1) (zg50_mg0 hn ha q1)
  rw [e] at c
  exact ⟨_, _, _, c, zyz50 q1 h, (zpZ50 q1).1 1000 rfl⟩
theorem zyl51 {L n : Nat} {x4 : Int32} (u5 u6 : Option zV) {S : zS} (hn : n < 512) (h : zR n S S) (hx1 : zx L (x4 + 1)) (hx2 : zx L (x4 + 2)) (hx3 : zx L (x4 + 3)) (hx4 : zx L (x4 + 4)) (hx5 : zx L (x4 + 5)) (hx6 : zx L (x4 + 6)) (hx7 : zx L (x4 + 7)) (hx8 : zx L (x4 + 8)) : zOne L n 2295 x4 u5 u6 S := by
  obtain ⟨q1, hq1⟩ : ∃ q, S 1000 (x4 + 1).toNatClampNeg = q := ⟨_, rfl⟩
  have ha := zya51 q1 h
  have e := zye51 x4 u5 u6 q1 (zyr51 q1 hn ha) rfl
  have c := zyc51 L x4 u5 u6 S q1 hx1 hq1 (zg51_g0 hn h q1) (zg51_g1 hn h q1) (zg51_g2 hn h q1) (zg51_g3 hn h q1) (zg51_mg0 hn ha q1) (zg51_mg1 hn ha q1) (zg51_mg2 hn ha q1) (zg51_mg3 hn ha q1) (zg51_mg4 hn ha q1)
  rw [e] at c
  exact ⟨_, _, _, c, zyz51 q1 h (fun hT => zyt51_Far q1 hn hT) (fun hT => zyt51_Log q1 hn hT), (zpZ51 q1).1 1000 rfl⟩
theorem zyl52 {L n : Nat} {x4 : Int32} (u5 u6 : Option zV) {S : zS} (hn : n < 512) (h : zR n S S) (hx1 : zx L (x4 + 1)) (hx2 : zx L (x4 + 2)) (hx3 : zx L (x4 + 3)) (hx4 : zx L (x4 + 4)) (hx5 : zx L (x4 + 5)) (hx6 : zx L (x4 + 6)) (hx7 : zx L (x4 + 7)) (hx8 : zx L (x4 + 8)) : zOne L n 2330 x4 u5 u6 S := by
  obtain ⟨q1, hq1⟩ : ∃ q, S 1000 (x4 + 1).toNatClampNeg = q := ⟨_, rfl⟩
  obtain ⟨q2, hq2⟩ : ∃ q, S 1000 (x4 + 2).toNatClampNeg = q := ⟨_, rfl⟩
  obtain ⟨q3, hq3⟩ : ∃ q, S 1000 (x4 + 3).toNatClampNeg = q := ⟨_, rfl⟩
  have ha := zya52 q1 q2 q3 h
  have e := zye52 x4 u5 u6 q1 q2 q3 (zyr52 q1 q2 q3 hn ha) rfl
  have c := zyc52 L x4 u5 u6 S q1 q2 q3 hx1 hq1 hx2 hq2 hx3 hq3 (zg52_g0 hn h q1 q2 q3) (zg52_g1 hn h q1 q2 q3) (zg52_g2 hn h q1 q2 q3) (zg52_g3 hn h q1 q2 q3) (zg52_mg0 hn ha q1 q2 q3) (zg52_mg1 hn ha q1 q2 q3) (zg52_mg2 hn ha q1 q2 q3) (zg52_mg3 hn ha q1 q2 q3) (zg52_mg4 hn ha q1 q2 q3)
  rw [e] at c
  exact ⟨_, _, _, c, zyz52 q1 q2 q3 h, (zpZ52 q1 q2 q3).1 1000 rfl⟩
theorem zyl53 {L n : Nat} {x4 : Int32} (u5 u6 : Option zV) {S : zS} (hn : n < 512) (h : zR n S S) (hx1 : zx L (x4 + 1)) (hx2 : zx L (x4 + 2)) (hx3 : zx L (x4 + 3)) (hx4 : zx L (x4 + 4)) (hx5 : zx L (x4 + 5)) (hx6 : zx L (x4 + 6)) (hx7 : zx L (x4 + 7)) (hx8 : zx L (x4 + 8)) : zOne L n 2385 x4 u5 u6 S := by
  obtain ⟨q1, hq1⟩ : ∃ q, S 1000 (x4 + 1).toNatClampNeg = q := ⟨_, rfl⟩
  have ha := zya53 q1 h
  have e := zye53 x4 u5 u6 q1 (zyr53 q1 hn ha) rfl
  have c := zyc53 L x4 u5 u6 S q1 hx1 hq1 (zg53_g0 hn h q1) (zg53_g1 hn h q1) (zg53_g2 hn h q1) (zg53_g3 hn h q1) (zg53_g4 hn h q1) (zg53_mg0 hn ha q1) (zg53_mg1 hn ha q1) (zg53_mg2 hn ha q1) (zg53_mg3 hn ha q1) (zg53_mg4 hn ha q1) (zg53_mg5 hn ha q1)
  rw [e] at c
  exact ⟨_, _, _, c, zyz53 q1 h (fun hT => zyt53_Key q1 hn hT) (fun hT => zyt53_Eng q1 hn hT) (fun hT => zyt53_Tok q1 hn hT) (fun hT => zyt53_Lea q1 hn hT) (fun hT => zyt53_LT q1 hn hT) (fun hT => zyt53_Use q1 hn hT), (zpZ53 q1).1 1000 rfl⟩
