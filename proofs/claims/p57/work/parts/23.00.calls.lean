/-! the class's methods as the law may call them (wip/p57/gen/gen23.py) -/
theorem jzo_or {x y : Int32} (hx : zo x) (hy : zo y) : zo (x ||| y) := by
  rcases hx with rfl | rfl <;> rcases hy with rfl | rfl <;> (unfold zo; decide)
theorem jzo3 {S : zS} (h : jSin S) : zo (((0 ||| (S 77 0)) ||| (S 77 1)) ||| (S 77 2)) := jzo_or (jzo_or (jzo_or (Or.inl rfl) (rSin_0 h 0)) (rSin_0 h 1)) (rSin_0 h 2)
theorem jzx39 {a : Int32} (h : zn 39 a) : zx 40 a := by rw [zx_iff]; unfold zn at h; omega
theorem jzp39 {a : Int32} (h : zn 39 a) : zn 10000 (a + 1) := by
  have := jk_p _ h (by decide)
  unfold zn at *; omega
theorem jn6 {S : zS} (h : jSea S) : zn 6 (S 1 1) := by have := rSea_1 h; unfold zn; omega
theorem jltz {N : Nat} {x y m : Int32} (e : y = x) (h : y < m) (hz : zn N x) (hm : m.toInt = N) : zx N x := by
  rw [zk_lt, e] at h
  rw [zx_iff]; unfold zn at hz; omega
theorem jp32 {x y : Int32} (e : y = x) (h : ¬ y < 0) (hz : -1 ≤ x.toInt ∧ x.toInt ≤ 7) : zx 8 x := by
  rw [zk_lt, e, jk_0] at h
  rw [zx_iff]; omega
theorem jth {a m : Int32} (d : (¬ (a < 0)) ∧ (¬ (m ≤ a))) : 0 ≤ a.toInt ∧ a.toInt < m.toInt := by
  rw [zk_lt, zk_le, jk_0] at d; omega
theorem jzxT {S : zS} (h : jTok S) {a : Int32} (d : (¬ (a < 0)) ∧ (¬ ((S 5 0) ≤ a))) : zx 40 a := by
  have := jth d; have := (rTok_0 h).2; rw [zx_iff]; omega
theorem jzpT {S : zS} (h : jTok S) {a : Int32} (d : (¬ (a < 0)) ∧ (¬ ((S 5 0) ≤ a))) : zn 10000 (a + 1) := by
  have := jth d; have := (rTok_0 h).2; exact jzp39 (by unfold zn; omega)
theorem jzxL {S : zS} (h : jLea S) {a : Int32} (d : (¬ (a < 0)) ∧ (¬ ((S 6 0) ≤ a))) : zx 40 a := by
  have := jth d; have := (rLea_0 h).2; rw [zx_iff]; omega
theorem jzxC {S : zS} (h : jCer S) {a : Int32} (d : (¬ (a < 0)) ∧ (¬ ((S 11 0) ≤ a))) : zx 30 a := by
  have := jth d; have := (rCer_0 h).2; rw [zx_iff]; omega
theorem jzxW {S : zS} (h : jWra S) {a : Int32} (d : (¬ (a < 0)) ∧ (¬ ((S 10 0) ≤ a))) : zx 20 a := by
  have := jth d; have := (rWra_0 h).2; rw [zx_iff]; omega
theorem jzxK {S : zS} (h : jCas S) {a : Int32} (d : (¬ (a < 0)) ∧ (¬ ((S 10 4) ≤ a))) : zx 20 a := by
  have := jth d; have := (rCas_0 h).2; rw [zx_iff]; omega
theorem jx67 {S : zS} (h : jCas S) {c : Int32} (hc : zx 20 c) : zx 216 (S 67 c.toNatClampNeg) := (rCas_4 h) _ (by rw [zx_iff] at hc; have := zk_nat hc.1; omega)
theorem jx66 {S : zS} (h : jCas S) {c : Int32} (hc : zx 20 c) : zx 40 (S 66 c.toNatClampNeg) := (rCas_3 h) _ (by rw [zx_iff] at hc; have := zk_nat hc.1; omega)
theorem jx17 {S : zS} (h : jEng S) {c : Int32} (hc : zx 216 c) : zx 3 (S 17 (c / 36).toNatClampNeg) := (rEng_1 h) _ (by have := jdiv36 hc; rw [zx_iff] at this; have := zk_nat this.1; omega)
theorem jx41 {S : zS} (h : jLea S) {a : Int32} (d : (¬ (a < 0)) ∧ (¬ ((S 6 0) ≤ a))) : zx 40 (S 41 a.toNatClampNeg) := (rLea_1 h) _ (by have := jzxL h d; rw [zx_iff] at this; have := zk_nat this.1; omega)
theorem jt199 {n : Nat} {S : zS} (hI : jI n S) {a c : Int32} (h : F199 a c S = 0) : zx 40 (S 5 0) := by
  rcases jF199 hI a c with ⟨e, _⟩ | ⟨e, _⟩ | ⟨e, _⟩ | ⟨e, _⟩ | ⟨_, _, e, _⟩
  · rw [e] at h; exact absurd h (by decide)
  · rw [e] at h; exact absurd h (by decide)
  · rw [e] at h; exact absurd h (by decide)
  · rw [e] at h; exact absurd h (by decide)
  · exact jltz rfl e (rTok_0 (jI_Tok hI)) rfl
theorem jI163 {n : Nat} {S : zS} (hn : n < 490) (hI : jI n S) {a b c d e : Int32} (ha : zn 39 a) (hc : zx 216 c) (d0 : (((¬ (b < 0)) ∧ (¬ (4 ≤ b))) ∧ ((¬ (c < 0)) ∧ (¬ (216 ≤ c))))) (d1 : (((¬ (d < 1)) ∧ (¬ (50 < d))) ∧ ((¬ (e < d)) ∧ (¬ (100 < e))))) : jLea (if F196 a b c 8 S = 0 then G205 a c d e (G196 a b c 8 S) else G196 a b c 8 S) := by
  obtain ⟨k, hJ, _, _⟩ := jadm hI a b c 8
  rw [zk_lt, zk_lt, zk_lt, zk_lt, jk_50, jk_100, zk_1] at d1
  split
  · next h0 =>
    rcases jrf hI a b c 8 with ⟨e1, e6, e7, f1, f2⟩ | ⟨e1, e2⟩
    · exact jJ_Lea (jm205 (by omega) hJ a c d e ⟨e7, by rw [k.1 5 rfl]; exact f1⟩ (by rw [k.1 40 rfl]; exact f2) hc (by omega) (by omega)).1
    · exact absurd h0 e1
  · exact jJ_Lea hJ
theorem jc1 {n : Nat} {S : zS} (hI : jI n S) {a b c : Int32} (hc : zx 216 c) (h : ¬ F3 c (G196 a b c 8 S) = -1) : zx 30 (F3 c (G196 a b c 8 S)) := by
  obtain ⟨k, hJ, _, _⟩ := jadm hI a b c 8
  obtain ⟨_, j, hj, e1, e2⟩ := (jF3 (jJ_Cer hJ) c hc).resolve_left h
  have := zn_cl (rCer_0 (jJ_Cer hJ))
  rw [e1]; exact zx_of (by omega) (by omega)
theorem jc3 {S : zS} (h : jCer S) {a : Int32} (d : (¬ (a < 0)) ∧ (¬ ((S 11 0) ≤ a))) : zCe a (S 11 0) (S 74 a.toNatClampNeg) (S 74 (S 74 a.toNatClampNeg).toNatClampNeg) := by
  have d1 := jth d
  have h0 := rCer_0 h
  have := zk_nat d1.1
  have := zk_nat h0.1
  obtain ⟨q1, q2, q3⟩ := (rCer_1 h) a.toNatClampNeg (by omega)
  exact ⟨d1.1, d1.2, h0.2, q1, by omega, q3⟩
theorem jc2 {n : Nat} {S : zS} (hI : jI n S) {a b c : Int32} (hc : zx 216 c) (h : ¬ F3 c (G196 a b c 8 S) = -1) : zCe (F3 c (G196 a b c 8 S)) ((G196 a b c 8 S) 11 0) ((G196 a b c 8 S) 74 (F3 c (G196 a b c 8 S)).toNatClampNeg) ((G196 a b c 8 S) 74 ((G196 a b c 8 S) 74 (F3 c (G196 a b c 8 S)).toNatClampNeg).toNatClampNeg) := by
  obtain ⟨k, hJ, _, _⟩ := jadm hI a b c 8
  obtain ⟨_, j, hj, e1, e2⟩ := (jF3 (jJ_Cer hJ) c hc).resolve_left h
  have h0 := rCer_0 (jJ_Cer hJ)
  have := zn_cl h0
  have := zk_nat h0.1
  have ej := zk_ti j (by omega)
  refine jc3 (jJ_Cer hJ) ?_
  rw [e1, zk_lt, zk_le, ej, jk_0]
  omega
theorem jzo7 (a b : Int32) (S : zS) : zo (F7 a b S) := by
  unfold F7 zo
  (repeat' split) <;> first | exact Or.inl rfl | exact Or.inr rfl
theorem jx18 {a b : Int32} (ha : 0 ≤ a.toInt ∧ a.toInt < 3) (hb : 0 ≤ b.toInt ∧ b.toInt < 6) : zx 18 ((a * 6) + b) := by
  have e6 : (a * 6).toInt = a.toInt * 6 := by rw [zk_tmul (by rw [jk_6]; omega) (by rw [jk_6]; omega), jk_6]
  have e7 : ((a * 6) + b).toInt = a.toInt * 6 + b.toInt := by rw [zk_tadd (by omega) (by omega), e6]
  rw [zx_iff]; omega
theorem jn36 {a : Int32} (ha : 0 ≤ a.toInt ∧ a.toInt < 6) : (a * 36).toInt = a.toInt * 36 ∧ ((a * 36) + 36).toInt = a.toInt * 36 + 36 := by
  have e36 : (a * 36).toInt = a.toInt * 36 := by rw [zk_tmul (by rw [jk_36]; omega) (by rw [jk_36]; omega), jk_36]
  exact ⟨e36, by rw [zk_tadd (by rw [jk_36]; omega) (by rw [jk_36]; omega), e36, jk_36]⟩
theorem jk_5 : (5 : Int32).toInt = 5 := rfl
theorem jk_8 : (8 : Int32).toInt = 8 := rfl
theorem jr20 {a r : Int32} (ha : (¬ (a < 0)) ∧ (¬ (8 ≤ a))) (hr : zn 4 r) : zx 8 a ∧ zx 40 ((a * 5) + r) ∧ zx 120 (((a * 5) + r) * 3) ∧ zx 120 ((((a * 5) + r) * 3) + 1) ∧ zx 120 ((((a * 5) + r) * 3) + 2) := by
  rw [zk_lt, zk_le, jk_0, jk_8] at ha
  unfold zn at hr
  have e5 : (a * 5).toInt = a.toInt * 5 := by rw [zk_tmul (by rw [jk_5]; omega) (by rw [jk_5]; omega), jk_5]
  have e6 : ((a * 5) + r).toInt = a.toInt * 5 + r.toInt := by rw [zk_tadd (by omega) (by omega), e5]
  have e7 : (((a * 5) + r) * 3).toInt = (a.toInt * 5 + r.toInt) * 3 := by rw [zk_tmul (by rw [jk_3]; omega) (by rw [jk_3]; omega), jk_3, e6]
  have e8 : ((((a * 5) + r) * 3) + 1).toInt = (a.toInt * 5 + r.toInt) * 3 + 1 := by rw [zk_tadd (by rw [zk_1]; omega) (by rw [zk_1]; omega), zk_1, e7]
  have e9 : ((((a * 5) + r) * 3) + 2).toInt = (a.toInt * 5 + r.toInt) * 3 + 2 := by rw [zk_tadd (by rw [jk_2]; omega) (by rw [jk_2]; omega), jk_2, e7]
  refine ⟨?_, ?_, ?_, ?_, ?_⟩ <;> (rw [zx_iff]; omega)
def jP131 (a b c : Int32) (S : zS) : Prop := (S 1 0 = -1) ∧ ((((¬ (a < 0)) ∧ (¬ (65535 < a))) ∧ (((¬ (b < 1)) ∧ (¬ (6 < b))) ∧ ((¬ (c < 1)) ∧ (¬ (b < c)))))) ∧ ((¬ (¬ ((S 1 1) ≤ 0))))
set_option maxRecDepth 100000 in
theorem y131 {L : Nat} (a b c : Int32) (S : zS) (hP : jP131 a b c S) : zf L 131 [.inr (.inr 0), .inl a, .inl b, .inl c] S (.inl none, (B131 a b c S), 0) := by
  unfold jP131 at hP
  obtain ⟨h9, d0, d1⟩ := hP
  exact x131 a b c S d0 d1 ((by rw [zup_s]; have := d0; simp only [zk_lt, zk_1, jk_6] at this; unfold zn; omega)) ((by rw [zup_s]; have := d0; simp only [zk_lt, zk_1, jk_6] at this; unfold zn; omega))
def jP132 (a : Int32) (S : zS) : Prop := (zo (S 1 6) ∧ zn 6 (S 1 1)) ∧ (((¬ (a < 1)) ∧ (¬ ((S 1 1) < a))))
set_option maxRecDepth 100000 in
theorem y132 {L : Nat} (a : Int32) (S : zS) (hP : jP132 a S) : zf L 132 [.inr (.inr 0), .inl a] S (.inl (some (.inl (A132 a S))), S, 0) := by
  unfold jP132 at hP
  obtain ⟨hs, d0⟩ := hP
  exact x132 a S d0 ((by have := hs.2; have := d0; simp only [zk_lt, zk_1] at *; unfold zn at *; rw [zx_iff]; omega))
def jP133 (a b : Int32) (S : zS) : Prop := (zo (S 1 6) ∧ zn 6 (S 1 1)) ∧ (((¬ (a < 1)) ∧ (¬ ((S 1 1) < a)))) ∧ (((¬ (b < 0)) ∧ (¬ (256 < b)))) ∧ (((S 1 6) = 0))
set_option maxRecDepth 100000 in
theorem y133 {L : Nat} (a b : Int32) (S : zS) (hP : jP133 a b S) : zf L 133 [.inr (.inr 0), .inl a, .inl b] S (.inl (some (.inl (A133 a b S))), (B133 a b S), 0) := by
  unfold jP133 at hP
  obtain ⟨hs, d0, d1, d2⟩ := hP
  exact x133 a b S d0 d1 d2 (hs.1) ((by have := hs.2; have := d0; simp only [zk_lt, zk_1] at *; unfold zn at *; rw [zx_iff]; omega)) (hs.2)
def jP134 (S : zS) : Prop := ((∃ n, n < 490 ∧ jI n S))
set_option maxRecDepth 100000 in
theorem y134 {L : Nat} (S : zS) (hP : jP134  S) : zf L 134 [.inr (.inr 0)] S (.inl (some (.inl (A134 S))), (B134 S), 0) := by
  unfold jP134 at hP
  obtain ⟨n, hn, hI⟩ := hP
  exact x134  S  (rSea_0 (jI_Sea hI))
def jP135 (S : zS) : Prop := ((∃ n, n < 490 ∧ jI n S))
set_option maxRecDepth 100000 in
theorem y135 {L : Nat} (S : zS) (hP : jP135  S) : zf L 135 [.inr (.inr 0)] S (.inl (some (.inl (A135 S))), S, 0) := by
  unfold jP135 at hP
  obtain ⟨n, hn, hI⟩ := hP
  exact x135  S  (rSea_0 (jI_Sea hI))
def jP138 (a b : Int32) (S : zS) : Prop := ((∃ n, n < 490 ∧ jI n S)) ∧ ((((¬ (a < 1)) ∧ (¬ (1000 < a))) ∧ ((¬ (b < 1)) ∧ (¬ (1000 < b)))))
set_option maxRecDepth 100000 in
theorem y138 {L : Nat} (a b : Int32) (S : zS) (hP : jP138 a b S) : zf L 138 [.inr (.inr 0), .inl a, .inl b] S (.inl none, (B138 a b S), 0) := by
  unfold jP138 at hP
  obtain ⟨⟨n, hn, hI⟩, d0⟩ := hP
  exact x138 a b S d0 
def jP139 (S : zS) : Prop := ((∃ n, n < 490 ∧ jI n S))
set_option maxRecDepth 100000 in
theorem y139 {L : Nat} (S : zS) (hP : jP139  S) : zf L 139 [.inr (.inr 0)] S (.inl (some (.inl (A139 S))), (B139 S), 0) := by
  unfold jP139 at hP
  obtain ⟨n, hn, hI⟩ := hP
  exact x139  S  
def jP140 (a : Int32) (S : zS) : Prop := ((∃ n, n < 490 ∧ jI n S)) ∧ (((¬ (a < (S 2 3))) ∧ (¬ ((S 2 0) < a))))
set_option maxRecDepth 100000 in
theorem y140 {L : Nat} (a : Int32) (S : zS) (hP : jP140 a S) : zf L 140 [.inr (.inr 0), .inl a] S (.inl (some (.inl (A140 a S))), (B140 a S), 0) := by
  unfold jP140 at hP
  obtain ⟨⟨n, hn, hI⟩, d0⟩ := hP
  exact x140 a S d0 
def jP141 (a : Int32) (S : zS) : Prop := ((∃ n, n < 490 ∧ jI n S)) ∧ (((¬ (a < 1)) ∧ (¬ (50 < a)))) ∧ ((¬ ((S 1 6) = 0)))
set_option maxRecDepth 100000 in
theorem y141 {L : Nat} (a : Int32) (S : zS) (hP : jP141 a S) : zf L 141 [.inr (.inr 0), .inl a] S (.inl (some (.inl (A141 a S))), (B141 a S), 0) := by
  unfold jP141 at hP
  obtain ⟨⟨n, hn, hI⟩, d0, d1⟩ := hP
  exact x141 a S d0 d1 (rSea_0 (jI_Sea hI)) (fun p hp => zn_mono (rSto_0 (jI_Sto hI) p hp) (by omega))
def jP142 (S : zS) : Prop := ((∃ n, n < 490 ∧ jI n S))
set_option maxRecDepth 100000 in
theorem y142 {L : Nat} (S : zS) (hP : jP142  S) : zf L 142 [.inr (.inr 0)] S (.inl (some (.inl (A142 S))), S, 0) := by
  unfold jP142 at hP
  obtain ⟨n, hn, hI⟩ := hP
  exact x142  S  
def jP143 (a b c : Int32) (S : zS) : Prop := ((∃ n, n < 490 ∧ jI n S)) ∧ ((((¬ (a < 0)) ∧ (¬ (6 ≤ a))) ∧ (((¬ (b < (-1))) ∧ (¬ (2 < b))) ∧ ((¬ (c < 0)) ∧ (¬ ((if (b = 1) then (2 : Int32) else 0) < c)))))) ∧ (((zb (b = (-1))) = (zb (¬ ((S 16 a.toNatClampNeg) = (-1))))))
set_option maxRecDepth 100000 in
theorem y143 {L : Nat} (a b c : Int32) (S : zS) (hP : jP143 a b c S) : zf L 143 [.inr (.inr 0), .inl a, .inl b, .inl c] S (.inl none, (B143 a b c S), 0) := by
  unfold jP143 at hP
  obtain ⟨⟨n, hn, hI⟩, d0, d1⟩ := hP
  exact x143 a b c S d0 d1 ((by simp only [zk_lt, zk_le, zx_iff, zn] at *; first | omega | (simp only [show (0 : Int32).toInt = 0 from rfl, show (1 : Int32).toInt = 1 from rfl, show (-1 : Int32).toInt = -1 from rfl, show (2 : Int32).toInt = 2 from rfl, show (3 : Int32).toInt = 3 from rfl, show (4 : Int32).toInt = 4 from rfl, show (6 : Int32).toInt = 6 from rfl, show (8 : Int32).toInt = 8 from rfl, show (50 : Int32).toInt = 50 from rfl, show (100 : Int32).toInt = 100 from rfl, show (7 : Int32).toInt = 7 from rfl] at *; omega))) (fun _ => (by have := d0.1; simp only [zk_lt, zk_le, jk_0, jk_6] at this; have := jn36 (a := a) (by omega); unfold zn; omega)) (fun _ => (by have := d0.1; simp only [zk_lt, zk_le, jk_0, jk_6] at this; have := jn36 (a := a) (by omega); unfold zn; omega)) (zn_mono (rFar_0 (jI_Far hI)) (by omega)) (zn_mono (rFar_1 (jI_Far hI)) (by omega)) (zn_mono (rFar_1 (jI_Far hI)) (by omega)) (rLea_0 (jI_Lea hI)) (rLea_2 (jI_Lea hI)) (rCas_0 (jI_Cas hI))
def jP144 (a b : Int32) (S : zS) : Prop := ((∃ n, n < 490 ∧ jI n S)) ∧ ((((¬ (a < 0)) ∧ (¬ (6 ≤ a))) ∧ ((¬ (b < 0)) ∧ (¬ (100 < b)))))
set_option maxRecDepth 100000 in
theorem y144 {L : Nat} (a b : Int32) (S : zS) (hP : jP144 a b S) : zf L 144 [.inr (.inr 0), .inl a, .inl b] S (.inl (some (.inl (A144 a b S))), (B144 a b S), 0) := by
  unfold jP144 at hP
  obtain ⟨⟨n, hn, hI⟩, d0⟩ := hP
  exact x144 a b S d0 ((by simp only [zk_lt, zk_le, zx_iff, zn] at *; first | omega | (simp only [show (0 : Int32).toInt = 0 from rfl, show (1 : Int32).toInt = 1 from rfl, show (-1 : Int32).toInt = -1 from rfl, show (2 : Int32).toInt = 2 from rfl, show (3 : Int32).toInt = 3 from rfl, show (4 : Int32).toInt = 4 from rfl, show (6 : Int32).toInt = 6 from rfl, show (8 : Int32).toInt = 8 from rfl, show (50 : Int32).toInt = 50 from rfl, show (100 : Int32).toInt = 100 from rfl, show (7 : Int32).toInt = 7 from rfl] at *; omega)))
def jP145 (a b c d e f : Int32) (S : zS) : Prop := (zn 4 (S 20 a.toNatClampNeg)) ∧ (((¬ (a < 0)) ∧ (¬ (8 ≤ a)))) ∧ ((((¬ (b < 0)) ∧ (¬ (8 < b))) ∧ (((¬ (c < 0)) ∧ (¬ (8 < c))) ∧ ((¬ (d < 0)) ∧ (¬ (8 < d)))))) ∧ ((((¬ (e < 0)) ∧ (¬ (15 < e))) ∧ ((¬ (f < 0)) ∧ (¬ (2 < f))))) ∧ ((¬ (5 ≤ (S 20 a.toNatClampNeg))))
set_option maxRecDepth 100000 in
theorem y145 {L : Nat} (a b c d e f : Int32) (S : zS) (hP : jP145 a b c d e f S) : zf L 145 [.inr (.inr 0), .inl a, .inl b, .inl c, .inl d, .inl e, .inl f] S (.inl (some (.inl (A145 a b c d e f S))), (B145 a b c d e f S), 0) := by
  unfold jP145 at hP
  obtain ⟨h20, d0, d1, d2, d3⟩ := hP
  exact x145 a b c d e f S d0 d1 d2 d3 ((jr20 d0 h20).1) ((jr20 d0 h20).2.2.1) ((jr20 d0 h20).2.2.2.1) ((jr20 d0 h20).2.2.2.2) ((jr20 d0 h20).2.1)
def jP147 (a b c : Int32) (S : zS) : Prop := ((∃ n, n < 490 ∧ jI n S)) ∧ ((a = 0 → zx 3 b) ∧ (a = 1 → zx 8 b) ∧ (¬ a = 0 → ¬ a = 1 → zx 4 b)) ∧ (((¬ ((¬ (a < 0)) ∧ (¬ (2 < a)))) ∨ ((¬ (b < 0)) ∧ (¬ ((if (a = 0) then (3 : Int32) else (if (a = 1) then (8 : Int32) else 4)) ≤ b))))) ∧ ((((¬ (a < 0)) ∧ (¬ (2 < a))) ∧ ((¬ (c < 0)) ∧ (¬ (255 < c)))))
set_option maxRecDepth 100000 in
theorem y147 {L : Nat} (a b c : Int32) (S : zS) (hP : jP147 a b c S) : zf L 147 [.inr (.inr 0), .inl a, .inl b, .inl c] S (.inl (some (.inl (A147 a b c S))), (B147 a b c S), 0) := by
  unfold jP147 at hP
  obtain ⟨⟨n, hn, hI⟩, hb, d0, d1⟩ := hP
  exact x147 a b c S d0 d1 (fun h0 => (hb.1 h0)) (fun h0 h1 => (hb.2.1 h1)) (fun h0 h1 => (hb.2.2 h0 h1))
def jP148 (a b c : Int32) (S : zS) : Prop := ((∃ n, n < 490 ∧ jI n S)) ∧ ((((¬ (a < 0)) ∧ (¬ (3 ≤ a))) ∧ (((¬ (b < 0)) ∧ (¬ (6 ≤ b))) ∧ ((¬ (c < (-1))) ∧ (¬ (7 < c))))))
set_option maxRecDepth 100000 in
theorem y148 {L : Nat} (a b c : Int32) (S : zS) (hP : jP148 a b c S) : zf L 148 [.inr (.inr 0), .inl a, .inl b, .inl c] S (.inl (some (.inl (A148 a b c S))), (B148 a b c S), 0) := by
  unfold jP148 at hP
  obtain ⟨⟨n, hn, hI⟩, d0⟩ := hP
  exact x148 a b c S d0 ((by have := d0; simp only [zk_lt, zk_le, jk_0, jk_3, jk_6] at this; exact jx18 (by omega) (by omega)))
def jP149 (a b : Int32) (S : zS) : Prop := ((∃ n, n < 490 ∧ jI n S)) ∧ ((((¬ (a < 0)) ∧ (¬ (8 ≤ a))) ∧ ((¬ (b < 0)) ∧ (¬ (8 ≤ b))))) ∧ ((¬ (a = b)))
set_option maxRecDepth 100000 in
theorem y149 {L : Nat} (a b : Int32) (S : zS) (hP : jP149 a b S) : zf L 149 [.inr (.inr 0), .inl a, .inl b] S (.inl (some (.inl (A149 a b S))), (B149 a b S), 0) := by
  unfold jP149 at hP
  obtain ⟨⟨n, hn, hI⟩, d0, d1⟩ := hP
  exact x149 a b S d0 d1 (rTok_0 (jI_Tok hI))
def jP150 (a b c d : Int32) (S : zS) : Prop := ((∃ n, n < 490 ∧ jI n S)) ∧ ((((¬ (a < 0)) ∧ (¬ (4 ≤ a))) ∧ ((¬ (c < 0)) ∧ (¬ ((if (b = 0) then (8 : Int32) else 4) ≤ c)))))
set_option maxRecDepth 100000 in
theorem y150 {L : Nat} (a b c d : Int32) (S : zS) (hP : jP150 a b c d S) : zf L 150 [.inr (.inr 0), .inl a, .inl b, .inl c, .inl d] S (.inl (some (.inl (A150 a b c d S))), (B150 a b c d S), 0) := by
  unfold jP150 at hP
  obtain ⟨⟨n, hn, hI⟩, d0⟩ := hP
  exact x150 a b c d S d0 (fun _ => (by simp only [zk_lt, zk_le, zx_iff, zn] at *; first | omega | (simp only [show (0 : Int32).toInt = 0 from rfl, show (1 : Int32).toInt = 1 from rfl, show (-1 : Int32).toInt = -1 from rfl, show (2 : Int32).toInt = 2 from rfl, show (3 : Int32).toInt = 3 from rfl, show (4 : Int32).toInt = 4 from rfl, show (6 : Int32).toInt = 6 from rfl, show (8 : Int32).toInt = 8 from rfl, show (50 : Int32).toInt = 50 from rfl, show (100 : Int32).toInt = 100 from rfl, show (7 : Int32).toInt = 7 from rfl] at *; omega))) (fun _ => (by simp only [zk_lt, zk_le, zx_iff, zn] at *; first | omega | (simp only [show (0 : Int32).toInt = 0 from rfl, show (1 : Int32).toInt = 1 from rfl, show (-1 : Int32).toInt = -1 from rfl, show (2 : Int32).toInt = 2 from rfl, show (3 : Int32).toInt = 3 from rfl, show (4 : Int32).toInt = 4 from rfl, show (6 : Int32).toInt = 6 from rfl, show (8 : Int32).toInt = 8 from rfl, show (50 : Int32).toInt = 50 from rfl, show (100 : Int32).toInt = 100 from rfl, show (7 : Int32).toInt = 7 from rfl] at *; omega)))
def jP151 (a b : Int32) (S : zS) : Prop := ((∃ n, n < 490 ∧ jI n S)) ∧ ((((¬ (a < 0)) ∧ (¬ (3 ≤ a))) ∧ ((¬ (b < 0)) ∧ (¬ (6 ≤ b)))))
set_option maxRecDepth 100000 in
theorem y151 {L : Nat} (a b : Int32) (S : zS) (hP : jP151 a b S) : zf L 151 [.inr (.inr 0), .inl a, .inl b] S (.inl (some (.inl (A151 a b S))), (B151 a b S), 0) := by
  unfold jP151 at hP
  obtain ⟨⟨n, hn, hI⟩, d0⟩ := hP
  exact x151 a b S d0 ((by have := d0; simp only [zk_lt, zk_le, jk_0, jk_3, jk_6] at this; exact jx18 (by omega) (by omega))) (rSea_0 (jI_Sea hI)) (fun _ _ _ => (by simp only [zk_lt, zk_le, zx_iff, zn] at *; first | omega | (simp only [show (0 : Int32).toInt = 0 from rfl, show (1 : Int32).toInt = 1 from rfl, show (-1 : Int32).toInt = -1 from rfl, show (2 : Int32).toInt = 2 from rfl, show (3 : Int32).toInt = 3 from rfl, show (4 : Int32).toInt = 4 from rfl, show (6 : Int32).toInt = 6 from rfl, show (8 : Int32).toInt = 8 from rfl, show (50 : Int32).toInt = 50 from rfl, show (100 : Int32).toInt = 100 from rfl, show (7 : Int32).toInt = 7 from rfl] at *; omega))) (fun h0 h1 h2 => jltz rfl (Decidable.not_not.mp h2) (rTok_0 (jI_Tok hI)) rfl)
def jP152 (a b c d e f g h : Int32) (S : zS) : Prop := ((∃ n, n < 490 ∧ jI n S)) ∧ (zo h) ∧ (a = -1 ∨ zn 39 a) ∧ ((((¬ (b < 0)) ∧ (¬ (2 < b))) ∧ ((¬ (c < 0)) ∧ (¬ (255 < c))))) ∧ ((((¬ (d < 1)) ∧ (¬ (100 < d))) ∧ ((¬ (e < d)) ∧ (¬ (200 < e))))) ∧ ((if (f = (-1)) then ((¬ (g < 1)) ∧ (¬ (15 < g))) else (((¬ (f < 1)) ∧ (¬ (20 < f))) ∧ ((¬ (g < 1)) ∧ (¬ (15 < g))))))
set_option maxRecDepth 100000 in
theorem y152 {L : Nat} (a b c d e f g h : Int32) (S : zS) (hP : jP152 a b c d e f g h S) : zf L 152 [.inr (.inr 0), .inl a, .inl b, .inl c, .inl d, .inl e, .inl f, .inl g, .inl h] S (.inl (some (.inl (A152 a b c d e f g h S))), (B152 a b c d e f g h S), 0) := by
  unfold jP152 at hP
  obtain ⟨⟨n, hn, hI⟩, hh, ha, d0, d1, d2⟩ := hP
  exact x152 a b c d e f g h S d0 d1 d2 (rSea_0 (jI_Sea hI)) (fun h0 h1 h2 => jzx39 (ha.resolve_left h1)) (fun h0 h1 => jzx39 (ha.resolve_left h1)) (fun h0 => jt199 hI (h0)) (fun _ => hh)
def jP153 (a b : Int32) (S : zS) : Prop := ((∃ n, n < 490 ∧ jI n S)) ∧ (((¬ (a < 0)) ∧ (¬ ((S 5 0) ≤ a)))) ∧ (((¬ (b < 1)) ∧ (¬ (100 < b))))
set_option maxRecDepth 100000 in
theorem y153 {L : Nat} (a b : Int32) (S : zS) (hP : jP153 a b S) : zf L 153 [.inr (.inr 0), .inl a, .inl b] S (.inl (some (.inl (A153 a b S))), (B153 a b S), 0) := by
  unfold jP153 at hP
  obtain ⟨⟨n, hn, hI⟩, d0, d1⟩ := hP
  exact x153 a b S d0 d1 (rSea_0 (jI_Sea hI)) (fun _ => jzxT (jI_Tok hI) d0)
def jP154 (a : Int32) (S : zS) : Prop := ((∃ n, n < 490 ∧ jI n S)) ∧ (((¬ (a < 0)) ∧ (¬ ((S 5 0) ≤ a))))
set_option maxRecDepth 100000 in
theorem y154 {L : Nat} (a : Int32) (S : zS) (hP : jP154 a S) : zf L 154 [.inr (.inr 0), .inl a] S (.inl (some (.inl (A154 a S))), (B154 a S), 0) := by
  unfold jP154 at hP
  obtain ⟨⟨n, hn, hI⟩, d0⟩ := hP
  exact x154 a S d0 (jzxT (jI_Tok hI) d0) (rTok_0 (jI_Tok hI)) (fun _ => jzpT (jI_Tok hI) d0) (rLea_0 (jI_Lea hI)) (rLea_1 (jI_Lea hI)) (rLea_2 (jI_Lea hI))
def jP155 (a : Int32) (S : zS) : Prop := ((∃ n, n < 490 ∧ jI n S)) ∧ (((¬ (a < 0)) ∧ (¬ ((S 5 0) ≤ a))))
set_option maxRecDepth 100000 in
theorem y155 {L : Nat} (a : Int32) (S : zS) (hP : jP155 a S) : zf L 155 [.inr (.inr 0), .inl a] S (.inl (some (.inl (A155 a S))), S, 0) := by
  unfold jP155 at hP
  obtain ⟨⟨n, hn, hI⟩, d0⟩ := hP
  exact x155 a S d0 (jzxT (jI_Tok hI) d0)
def jP156 (a : Int32) (S : zS) : Prop := ((∃ n, n < 490 ∧ jI n S)) ∧ (((¬ (a < 0)) ∧ (¬ ((S 5 0) ≤ a))))
set_option maxRecDepth 100000 in
theorem y156 {L : Nat} (a : Int32) (S : zS) (hP : jP156 a S) : zf L 156 [.inr (.inr 0), .inl a] S (.inl (some (.inl (A156 a S))), S, 0) := by
  unfold jP156 at hP
  obtain ⟨⟨n, hn, hI⟩, d0⟩ := hP
  exact x156 a S d0 (jzxT (jI_Tok hI) d0)
def jP158 (a b c d : Int32) (S : zS) : Prop := ((∃ n, n < 490 ∧ jI n S)) ∧ (zn 39 a) ∧ ((((¬ (b < 0)) ∧ (¬ (4 ≤ b))) ∧ (((¬ (c < 0)) ∧ (¬ (216 ≤ c))) ∧ ((¬ (d < 0)) ∧ (¬ (9999 < d))))))
set_option maxRecDepth 100000 in
theorem y158 {L : Nat} (a b c d : Int32) (S : zS) (hP : jP158 a b c d S) : zf L 158 [.inr (.inr 0), .inl a, .inl b, .inl c, .inl d] S (.inl (some (.inl (A158 a b c d S))), (B158 a b c d S), 0) := by
  unfold jP158 at hP
  obtain ⟨⟨n, hn, hI⟩, ha, d0⟩ := hP
  have hx216 : zx 216 c := by
    have := d0
    simp only [zk_lt, zk_le, show (0 : Int32).toInt = 0 from rfl, show (216 : Int32).toInt = 216 from rfl] at this
    rw [zx_iff]; omega
  exact x158 a b c d S d0 (rSea_0 (jI_Sea hI)) (jzo3 (jI_Sin hI)) (fun _ _ _ => jzx39 ha) (fun _ _ _ => jzx39 ha) (fun _ _ _ => jdiv36 hx216) (fun h0 h1 h2 h3 h4 h5 => jp32 (congrFun (zite_k ((zupc rfl).trans (zite_k rfl (zupc rfl))) (zite_k rfl (zupc rfl))) _) h4 (rTok_1 (jI_Tok hI) _)) (fun _ => jdiv36 hx216) (fun _ _ => hx216) (fun h0 h1 h2 => zx_107 hx216 h2) (fun _ => jzx39 ha) (fun h0 h1 h2 => jp32 (congrFun (w_G196_32 _ _ _ _ _) _) h1 (rTok_1 (jI_Tok hI) _)) (fun h0 h1 h2 h3 => jltz (w_G196_10_4 _ _ _ _ _) h3 (rCas_0 (jI_Cas hI)) rfl) (fun _ _ _ => jzx39 ha) (rTok_0 (jI_Tok hI)) (fun _ _ _ _ _ => jzp39 ha) (rLea_0 (jI_Lea hI)) (rLea_1 (jI_Lea hI)) (rLea_2 (jI_Lea hI))
def jP159 (a b c d e : Int32) (S : zS) : Prop := ((∃ n, n < 490 ∧ jI n S)) ∧ (zn 39 a) ∧ ((((¬ (b < 0)) ∧ (¬ (4 ≤ b))) ∧ ((¬ (c < 0)) ∧ (¬ (216 ≤ c))))) ∧ ((((¬ (d < 0)) ∧ (¬ (9999 < d))) ∧ ((¬ (e < (-1))) ∧ (¬ (9999 < e)))))
set_option maxRecDepth 100000 in
theorem y159 {L : Nat} (a b c d e : Int32) (S : zS) (hP : jP159 a b c d e S) : zf L 159 [.inr (.inr 0), .inl a, .inl b, .inl c, .inl d, .inl e] S (.inl (some (.inl (A159 a b c d e S))), (B159 a b c d e S), 0) := by
  unfold jP159 at hP
  obtain ⟨⟨n, hn, hI⟩, ha, d0, d1⟩ := hP
  have hx216 : zx 216 c := by
    have := d0
    simp only [zk_lt, zk_le, show (0 : Int32).toInt = 0 from rfl, show (216 : Int32).toInt = 216 from rfl] at this
    rw [zx_iff]; omega
  exact x159 a b c d e S d0 d1 (rSea_0 (jI_Sea hI)) (jzo3 (jI_Sin hI)) (fun _ _ _ => jzx39 ha) (fun _ _ _ => jzx39 ha) (fun _ _ _ => jdiv36 hx216) (fun h0 h1 h2 h3 h4 h5 => jp32 (congrFun (zite_k ((zupc rfl).trans (zite_k rfl (zupc rfl))) (zite_k rfl (zupc rfl))) _) h4 (rTok_1 (jI_Tok hI) _)) (fun _ => jdiv36 hx216) (fun _ _ _ _ => zx_zn (rFar_0 (jI_Far hI)) (by omega)) (fun _ _ _ => hx216) (fun _ _ _ => zx_slot hx216 (zfm_zn _ _)) (fun _ _ _ => hx216) (fun _ _ _ _ _ => zx_zn (rFar_0 (jI_Far hI)) (by omega)) (fun _ _ _ _ => zx_slot hx216 (zfm_zn _ _)) (fun _ _ _ => jzx39 ha) (rTok_0 (jI_Tok hI)) (fun _ _ _ _ _ => jzp39 ha) (rLea_0 (jI_Lea hI)) (rLea_1 (jI_Lea hI)) (rLea_2 (jI_Lea hI))
def jP160 (a b c d e : Int32) (S : zS) : Prop := ((∃ n, n < 490 ∧ jI n S)) ∧ (zn 39 a) ∧ ((((¬ (b < 0)) ∧ (¬ (4 ≤ b))) ∧ (((¬ (c < 0)) ∧ (¬ (216 ≤ c))) ∧ ((¬ (d < 0)) ∧ (¬ (9999 < d)))))) ∧ (((¬ (e < 0)) ∧ (¬ (2 < e))))
set_option maxRecDepth 100000 in
theorem y160 {L : Nat} (a b c d e : Int32) (S : zS) (hP : jP160 a b c d e S) : zf L 160 [.inr (.inr 0), .inl a, .inl b, .inl c, .inl d, .inl e] S (.inl (some (.inl (A160 a b c d e S))), (B160 a b c d e S), 0) := by
  unfold jP160 at hP
  obtain ⟨⟨n, hn, hI⟩, ha, d0, d1⟩ := hP
  have hx216 : zx 216 c := by
    have := d0
    simp only [zk_lt, zk_le, show (0 : Int32).toInt = 0 from rfl, show (216 : Int32).toInt = 216 from rfl] at this
    rw [zx_iff]; omega
  exact x160 a b c d e S d0 d1 (rSea_0 (jI_Sea hI)) (jzo3 (jI_Sin hI)) (fun _ _ _ => jzx39 ha) (fun _ _ _ => jzx39 ha) (fun _ _ _ => jdiv36 hx216) (fun h0 h1 h2 h3 h4 h5 => jp32 (congrFun (zite_k ((zupc rfl).trans (zite_k rfl (zupc rfl))) (zite_k rfl (zupc rfl))) _) h4 (rTok_1 (jI_Tok hI) _)) (fun _ => jdiv36 hx216) (fun _ _ => hx216) (fun h0 h1 h2 => zx_107 hx216 h2) (fun _ _ _ _ _ => zx_zn (rFar_0 (jI_Far hI)) (by omega)) (fun _ _ _ => jzx39 ha) (rTok_0 (jI_Tok hI)) (fun _ _ _ _ _ => jzp39 ha) (rLea_0 (jI_Lea hI)) (rLea_1 (jI_Lea hI)) (rLea_2 (jI_Lea hI))
def jP161 (a b : Int32) (S : zS) : Prop := ((∃ n, n < 490 ∧ jI n S)) ∧ ((((¬ (a < 0)) ∧ (¬ (216 ≤ a))) ∧ ((¬ (b < 0)) ∧ (¬ (9999 < b)))))
set_option maxRecDepth 100000 in
theorem y161 {L : Nat} (a b : Int32) (S : zS) (hP : jP161 a b S) : zf L 161 [.inr (.inr 0), .inl a, .inl b] S (.inl (some (.inl (A161 a b S))), S, 0) := by
  unfold jP161 at hP
  obtain ⟨⟨n, hn, hI⟩, d0⟩ := hP
  have hx216 : zx 216 a := by
    have := d0
    simp only [zk_lt, zk_le, show (0 : Int32).toInt = 0 from rfl, show (216 : Int32).toInt = 216 from rfl] at this
    rw [zx_iff]; omega
  exact x161 a b S d0 (hx216) (fun h0 => zx_107 hx216 h0)
def jP162 (a b : Int32) (S : zS) : Prop := ((∃ n, n < 490 ∧ jI n S)) ∧ (((¬ (a < 0)) ∧ (¬ (3 ≤ a)))) ∧ (((¬ (b < 0)) ∧ (¬ (2 < b))))
set_option maxRecDepth 100000 in
theorem y162 {L : Nat} (a b : Int32) (S : zS) (hP : jP162 a b S) : zf L 162 [.inr (.inr 0), .inl a, .inl b] S (.inl (some (.inl (A162 a b S))), (B162 a b S), 0) := by
  unfold jP162 at hP
  obtain ⟨⟨n, hn, hI⟩, d0, d1⟩ := hP
  exact x162 a b S d0 d1 ((by simp only [zk_lt, zk_le, zx_iff, zn] at *; first | omega | (simp only [show (0 : Int32).toInt = 0 from rfl, show (1 : Int32).toInt = 1 from rfl, show (-1 : Int32).toInt = -1 from rfl, show (2 : Int32).toInt = 2 from rfl, show (3 : Int32).toInt = 3 from rfl, show (4 : Int32).toInt = 4 from rfl, show (6 : Int32).toInt = 6 from rfl, show (8 : Int32).toInt = 8 from rfl, show (50 : Int32).toInt = 50 from rfl, show (100 : Int32).toInt = 100 from rfl, show (7 : Int32).toInt = 7 from rfl] at *; omega)))
def jP163 (a b c d e : Int32) (S : zS) : Prop := ((∃ n, n < 490 ∧ jI n S)) ∧ (zn 39 a) ∧ ((((¬ (b < 0)) ∧ (¬ (4 ≤ b))) ∧ ((¬ (c < 0)) ∧ (¬ (216 ≤ c))))) ∧ ((((¬ (d < 1)) ∧ (¬ (50 < d))) ∧ ((¬ (e < d)) ∧ (¬ (100 < e)))))
set_option maxRecDepth 100000 in
theorem y163 {L : Nat} (a b c d e : Int32) (S : zS) (hP : jP163 a b c d e S) : zf L 163 [.inr (.inr 0), .inl a, .inl b, .inl c, .inl d, .inl e] S (.inl (some (.inl (A163 a b c d e S))), (B163 a b c d e S), 0) := by
  unfold jP163 at hP
  obtain ⟨⟨n, hn, hI⟩, ha, d0, d1⟩ := hP
  have hx216 : zx 216 c := by
    have := d0
    simp only [zk_lt, zk_le, show (0 : Int32).toInt = 0 from rfl, show (216 : Int32).toInt = 216 from rfl] at this
    rw [zx_iff]; omega
  exact x163 a b c d e S d0 d1 (rSea_0 (jI_Sea hI)) (jzo3 (jI_Sin hI)) (fun _ _ _ => jzx39 ha) (fun _ _ _ => jzx39 ha) (fun _ _ _ => jdiv36 hx216) (fun h0 h1 h2 h3 h4 h5 => jp32 (congrFun (zite_k ((zupc rfl).trans (zite_k rfl (zupc rfl))) (zite_k rfl (zupc rfl))) _) h4 (rTok_1 (jI_Tok hI) _)) (fun _ => jdiv36 hx216) (fun _ _ _ => jx17 (jI_Eng hI) hx216) (fun h0 h1 h2 h3 => jltz (w_G196_6_0 _ _ _ _ _) (Decidable.not_not.mp h2) (rLea_0 (jI_Lea hI)) rfl) (fun _ _ _ _ => jzx39 ha) (fun _ _ _ => jzx39 ha) (rTok_0 (jI_Tok hI)) (fun _ _ _ _ _ => jzp39 ha) (rLea_0 (jI163 (by omega) hI ha hx216 d0 d1)) (rLea_1 (jI163 (by omega) hI ha hx216 d0 d1)) (rLea_2 (jI163 (by omega) hI ha hx216 d0 d1))
def jP164 (a b : Int32) (S : zS) : Prop := ((∃ n, n < 490 ∧ jI n S)) ∧ (((¬ (a < 0)) ∧ (¬ ((S 6 0) ≤ a)))) ∧ (((¬ (b < 1)) ∧ (¬ (50 < b))))
set_option maxRecDepth 100000 in
theorem y164 {L : Nat} (a b : Int32) (S : zS) (hP : jP164 a b S) : zf L 164 [.inr (.inr 0), .inl a, .inl b] S (.inl (some (.inl (A164 a b S))), (B164 a b S), 0) := by
  unfold jP164 at hP
  obtain ⟨⟨n, hn, hI⟩, d0, d1⟩ := hP
  exact x164 a b S d0 d1 (rSea_0 (jI_Sea hI)) (fun _ => jzxL (jI_Lea hI) d0) (fun _ _ => jx41 (jI_Lea hI) d0)
def jP165 (a b : Int32) (S : zS) : Prop := ((∃ n, n < 490 ∧ jI n S)) ∧ ((((¬ (a < 0)) ∧ (¬ (6 ≤ a))) ∧ ((b = (-1)) ∨ ((¬ (b < 0)) ∧ (¬ (6 ≤ b))))))
set_option maxRecDepth 100000 in
theorem y165 {L : Nat} (a b : Int32) (S : zS) (hP : jP165 a b S) : zf L 165 [.inr (.inr 0), .inl a, .inl b] S (.inl (some (.inl (A165 a b S))), (B165 a b S), 0) := by
  unfold jP165 at hP
  obtain ⟨⟨n, hn, hI⟩, d0⟩ := hP
  exact x165 a b S d0 (rLea_0 (jI_Lea hI)) (rLea_2 (jI_Lea hI))
def jP166 (a : Int32) (S : zS) : Prop := ((∃ n, n < 490 ∧ jI n S)) ∧ (((¬ (a < 0)) ∧ (¬ ((S 6 0) ≤ a))))
set_option maxRecDepth 100000 in
theorem y166 {L : Nat} (a : Int32) (S : zS) (hP : jP166 a S) : zf L 166 [.inr (.inr 0), .inl a] S (.inl (some (.inl (A166 a S))), S, 0) := by
  unfold jP166 at hP
  obtain ⟨⟨n, hn, hI⟩, d0⟩ := hP
  exact x166 a S d0 (jzxL (jI_Lea hI) d0)
def jP167 (a : Int32) (S : zS) : Prop := ((∃ n, n < 490 ∧ jI n S)) ∧ (((¬ (a < 0)) ∧ (¬ ((S 6 0) ≤ a))))
set_option maxRecDepth 100000 in
theorem y167 {L : Nat} (a : Int32) (S : zS) (hP : jP167 a S) : zf L 167 [.inr (.inr 0), .inl a] S (.inl (some (.inl (A167 a S))), S, 0) := by
  unfold jP167 at hP
  obtain ⟨⟨n, hn, hI⟩, d0⟩ := hP
  exact x167 a S d0 (jzxL (jI_Lea hI) d0)
def jP168 (a : Int32) (S : zS) : Prop := ((∃ n, n < 490 ∧ jI n S)) ∧ (((¬ (a < 0)) ∧ (¬ (3 ≤ a))))
set_option maxRecDepth 100000 in
theorem y168 {L : Nat} (a : Int32) (S : zS) (hP : jP168 a S) : zf L 168 [.inr (.inr 0), .inl a] S (.inl (some (.inl (A168 a S))), S, 0) := by
  unfold jP168 at hP
  obtain ⟨⟨n, hn, hI⟩, d0⟩ := hP
  exact x168 a S d0 ((by simp only [zk_lt, zk_le, zx_iff, zn] at *; first | omega | (simp only [show (0 : Int32).toInt = 0 from rfl, show (1 : Int32).toInt = 1 from rfl, show (-1 : Int32).toInt = -1 from rfl, show (2 : Int32).toInt = 2 from rfl, show (3 : Int32).toInt = 3 from rfl, show (4 : Int32).toInt = 4 from rfl, show (6 : Int32).toInt = 6 from rfl, show (8 : Int32).toInt = 8 from rfl, show (50 : Int32).toInt = 50 from rfl, show (100 : Int32).toInt = 100 from rfl, show (7 : Int32).toInt = 7 from rfl] at *; omega)))
def jP169 (a : Int32) (S : zS) : Prop := ((∃ n, n < 490 ∧ jI n S)) ∧ (((¬ (a < 0)) ∧ (¬ (3 ≤ a))))
set_option maxRecDepth 100000 in
theorem y169 {L : Nat} (a : Int32) (S : zS) (hP : jP169 a S) : zf L 169 [.inr (.inr 0), .inl a] S (.inl (some (.inl (A169 a S))), S, 0) := by
  unfold jP169 at hP
  obtain ⟨⟨n, hn, hI⟩, d0⟩ := hP
  exact x169 a S d0 ((by simp only [zk_lt, zk_le, zx_iff, zn] at *; first | omega | (simp only [show (0 : Int32).toInt = 0 from rfl, show (1 : Int32).toInt = 1 from rfl, show (-1 : Int32).toInt = -1 from rfl, show (2 : Int32).toInt = 2 from rfl, show (3 : Int32).toInt = 3 from rfl, show (4 : Int32).toInt = 4 from rfl, show (6 : Int32).toInt = 6 from rfl, show (8 : Int32).toInt = 8 from rfl, show (50 : Int32).toInt = 50 from rfl, show (100 : Int32).toInt = 100 from rfl, show (7 : Int32).toInt = 7 from rfl] at *; omega))) (rLea_0 (jI_Lea hI))
def jP170 (a b c d : Int32) (S : zS) : Prop := ((∃ n, n < 490 ∧ jI n S)) ∧ (zn 39 a) ∧ ((((¬ (b < 0)) ∧ (¬ (4 ≤ b))) ∧ (((¬ (c < 0)) ∧ (¬ (216 ≤ c))) ∧ ((¬ (d < 0)) ∧ (¬ (9999 < d))))))
set_option maxRecDepth 100000 in
theorem y170 {L : Nat} (a b c d : Int32) (S : zS) (hP : jP170 a b c d S) : zf L 170 [.inr (.inr 0), .inl a, .inl b, .inl c, .inl d] S (.inl (some (.inl (A170 a b c d S))), (B170 a b c d S), 0) := by
  unfold jP170 at hP
  obtain ⟨⟨n, hn, hI⟩, ha, d0⟩ := hP
  have hx216 : zx 216 c := by
    have := d0
    simp only [zk_lt, zk_le, show (0 : Int32).toInt = 0 from rfl, show (216 : Int32).toInt = 216 from rfl] at this
    rw [zx_iff]; omega
  exact x170 a b c d S d0 (rSea_0 (jI_Sea hI)) (jzo3 (jI_Sin hI)) (fun _ _ _ => jzx39 ha) (fun _ _ _ => jzx39 ha) (fun _ _ _ => jdiv36 hx216) (fun h0 h1 h2 h3 h4 h5 => jp32 (congrFun (zite_k ((zupc rfl).trans (zite_k rfl (zupc rfl))) (zite_k rfl (zupc rfl))) _) h4 (rTok_1 (jI_Tok hI) _)) (fun _ => jdiv36 hx216) (fun _ _ => hx216) (fun h0 h1 h2 => zx_107 hx216 h2) (fun _ => jzx39 ha) (fun h0 h1 h2 => jp32 (congrFun (w_G196_32 _ _ _ _ _) _) h1 (rTok_1 (jI_Tok hI) _)) (fun h0 h1 h2 h3 => jltz (w_G196_10_4 _ _ _ _ _) h3 (rCas_0 (jI_Cas hI)) rfl) (fun h0 h1 => jltz (zite_rd ((w_G202_10_0 _ _ _ _).trans (w_G196_10_0 _ _ _ _ _)) (w_G196_10_0 _ _ _ _ _)) h1 (rWra_0 (jI_Wra hI)) rfl) (fun _ _ _ => jzx39 ha) (rTok_0 (jI_Tok hI)) (fun _ _ _ _ _ => jzp39 ha) (rLea_0 (jI_Lea hI)) (rLea_1 (jI_Lea hI)) (rLea_2 (jI_Lea hI))
def jP171 (a : Int32) (S : zS) : Prop := ((∃ n, n < 490 ∧ jI n S)) ∧ (((¬ (a < 0)) ∧ (¬ ((S 10 0) ≤ a))))
set_option maxRecDepth 100000 in
theorem y171 {L : Nat} (a : Int32) (S : zS) (hP : jP171 a S) : zf L 171 [.inr (.inr 0), .inl a] S (.inl (some (.inl (A171 a S))), (B171 a S), 0) := by
  unfold jP171 at hP
  obtain ⟨⟨n, hn, hI⟩, d0⟩ := hP
  exact x171 a S d0 (rSea_0 (jI_Sea hI)) (fun _ => jzxW (jI_Wra hI) d0)
def jP172 (a b c : Int32) (S : zS) : Prop := ((∃ n, n < 490 ∧ jI n S)) ∧ (zn 39 a) ∧ (((¬ (c < 0)) ∧ (¬ ((S 10 4) ≤ c)))) ∧ (((¬ (b < 0)) ∧ (¬ (4 ≤ b))))
set_option maxRecDepth 100000 in
theorem y172 {L : Nat} (a b c : Int32) (S : zS) (hP : jP172 a b c S) : zf L 172 [.inr (.inr 0), .inl a, .inl b, .inl c] S (.inl (some (.inl (A172 a b c S))), (B172 a b c S), 0) := by
  unfold jP172 at hP
  obtain ⟨⟨n, hn, hI⟩, ha, d0, d1⟩ := hP
  have hx20 : zx 20 c := jzxK (jI_Cas hI) d0
  have hx67 : zx 216 (S 67 c.toNatClampNeg) := jx67 (jI_Cas hI) hx20
  have hx66 : zx 40 (S 66 c.toNatClampNeg) := jx66 (jI_Cas hI) hx20
  exact x172 a b c S d0 d1 (hx20) (rSea_0 (jI_Sea hI)) (jzo3 (jI_Sin hI)) (fun _ _ _ => jzx39 ha) (fun _ _ _ => jzx39 ha) (fun _ _ _ => jdiv36 hx67) (fun h0 h1 h2 h3 h4 h5 => jp32 (congrFun (zite_k ((zupc rfl).trans (zite_k rfl (zupc rfl))) (zite_k rfl (zupc rfl))) _) h4 (rTok_1 (jI_Tok hI) _)) (fun _ _ => jzx39 ha) (fun _ _ _ _ => hx66) (fun _ _ _ => jzx39 ha) (rTok_0 (jI_Tok hI)) (fun _ _ _ _ _ => jzp39 ha) (rLea_0 (jI_Lea hI)) (rLea_1 (jI_Lea hI)) (rLea_2 (jI_Lea hI))
def jP173 (a b c : Int32) (S : zS) : Prop := ((∃ n, n < 490 ∧ jI n S)) ∧ (zn 39 a) ∧ (((¬ (c < 0)) ∧ (¬ ((S 10 4) ≤ c)))) ∧ (((¬ (b < 0)) ∧ (¬ (4 ≤ b))))
set_option maxRecDepth 100000 in
theorem y173 {L : Nat} (a b c : Int32) (S : zS) (hP : jP173 a b c S) : zf L 173 [.inr (.inr 0), .inl a, .inl b, .inl c] S (.inl (some (.inl (A173 a b c S))), (B173 a b c S), 0) := by
  unfold jP173 at hP
  obtain ⟨⟨n, hn, hI⟩, ha, d0, d1⟩ := hP
  have hx20 : zx 20 c := jzxK (jI_Cas hI) d0
  have hx67 : zx 216 (S 67 c.toNatClampNeg) := jx67 (jI_Cas hI) hx20
  have hx66 : zx 40 (S 66 c.toNatClampNeg) := jx66 (jI_Cas hI) hx20
  exact x173 a b c S d0 d1 (hx20) (rSea_0 (jI_Sea hI)) (jzo3 (jI_Sin hI)) (fun _ _ _ => jzx39 ha) (fun _ _ _ => jzx39 ha) (fun _ _ _ => jdiv36 hx67) (fun h0 h1 h2 h3 h4 h5 => jp32 (congrFun (zite_k ((zupc rfl).trans (zite_k rfl (zupc rfl))) (zite_k rfl (zupc rfl))) _) h4 (rTok_1 (jI_Tok hI) _)) (fun _ _ _ _ => (by rw [(p_G196 _ _ _ _ S).1 67 rfl]; exact jdiv36 hx67)) (fun _ _ _ _ _ => hx67) (fun h0 h1 h2 h3 h4 h5 => zx_107 (by rw [(p_G196 _ _ _ _ S).1 67 rfl]; exact hx67) h5) (fun _ _ _ => jzx39 ha) (rTok_0 (jI_Tok hI)) (fun _ _ _ _ _ => jzp39 ha) (rLea_0 (jI_Lea hI)) (rLea_1 (jI_Lea hI)) (rLea_2 (jI_Lea hI))
def jP174 (S : zS) : Prop := ((∃ n, n < 490 ∧ jI n S))
set_option maxRecDepth 100000 in
theorem y174 {L : Nat} (S : zS) (hP : jP174  S) : zf L 174 [.inr (.inr 0)] S (.inl (some (.inl (A174 S))), S, 0) := by
  unfold jP174 at hP
  obtain ⟨n, hn, hI⟩ := hP
  exact x174  S  
def jP175 (a b c d : Int32) (S : zS) : Prop := ((∃ n, n < 490 ∧ jI n S)) ∧ (zn 39 a) ∧ ((((¬ (b < 0)) ∧ (¬ (4 ≤ b))) ∧ (((¬ (c < 0)) ∧ (¬ (216 ≤ c))) ∧ ((¬ (d < 1)) ∧ (¬ (200 < d))))))
set_option maxRecDepth 100000 in
theorem y175 {L : Nat} (a b c d : Int32) (S : zS) (hP : jP175 a b c d S) : zf L 175 [.inr (.inr 0), .inl a, .inl b, .inl c, .inl d] S (.inl (some (.inl (A175 a b c d S))), (B175 a b c d S), 0) := by
  unfold jP175 at hP
  obtain ⟨⟨n, hn, hI⟩, ha, d0⟩ := hP
  have hx216 : zx 216 c := by
    have := d0
    simp only [zk_lt, zk_le, show (0 : Int32).toInt = 0 from rfl, show (216 : Int32).toInt = 216 from rfl] at this
    rw [zx_iff]; omega
  exact x175 a b c d S d0 (rSea_0 (jI_Sea hI)) (jzo3 (jI_Sin hI)) (fun _ _ _ => jzx39 ha) (fun _ _ _ => jzx39 ha) (fun _ _ _ => jdiv36 hx216) (fun h0 h1 h2 h3 h4 h5 => jp32 (congrFun (zite_k ((zupc rfl).trans (zite_k rfl (zupc rfl))) (zite_k rfl (zupc rfl))) _) h4 (rTok_1 (jI_Tok hI) _)) (fun _ => jdiv36 hx216) (rCer_0 (jI_Cer hI)) (fun h0 h1 h2 h3 => jltz (w_G196_11_0 _ _ _ _ _) (Decidable.not_not.mp h2) (rCer_0 (jI_Cer hI)) rfl) (fun h0 h1 h2 h3 h4 => jc1 hI hx216 h4) (fun h0 h1 h2 h3 => jc2 hI hx216 h3) (fun h0 h1 h2 h3 h4 => jltz (w_G196_11_0 _ _ _ _ _) (Decidable.not_not.mp h2) (rCer_0 (jI_Cer hI)) rfl) (fun h0 h1 h2 h3 h4 h5 => jc1 hI hx216 h5) (fun _ _ _ => jzx39 ha) (rTok_0 (jI_Tok hI)) (fun _ _ _ _ _ => jzp39 ha) (rLea_0 (jI_Lea hI)) (rLea_1 (jI_Lea hI)) (rLea_2 (jI_Lea hI))
def jP176 (a : Int32) (S : zS) : Prop := ((∃ n, n < 490 ∧ jI n S)) ∧ (((¬ (a < 0)) ∧ (¬ ((S 11 0) ≤ a))))
set_option maxRecDepth 100000 in
theorem y176 {L : Nat} (a : Int32) (S : zS) (hP : jP176 a S) : zf L 176 [.inr (.inr 0), .inl a] S (.inl (some (.inl (A176 a S))), (B176 a S), 0) := by
  unfold jP176 at hP
  obtain ⟨⟨n, hn, hI⟩, d0⟩ := hP
  exact x176 a S d0 (jzxC (jI_Cer hI) d0)
def jP177 (S : zS) : Prop := ((∃ n, n < 490 ∧ jI n S))
set_option maxRecDepth 100000 in
theorem y177 {L : Nat} (S : zS) (hP : jP177  S) : zf L 177 [.inr (.inr 0)] S (.inl (some (.inl (A177 S))), (B177 S), 0) := by
  unfold jP177 at hP
  obtain ⟨n, hn, hI⟩ := hP
  exact x177  S  (rCer_0 (jI_Cer hI))
def jP178 (a : Int32) (S : zS) : Prop := ((∃ n, n < 490 ∧ jI n S)) ∧ (((¬ (a < 0)) ∧ (¬ ((S 11 0) ≤ a))))
set_option maxRecDepth 100000 in
theorem y178 {L : Nat} (a : Int32) (S : zS) (hP : jP178 a S) : zf L 178 [.inr (.inr 0), .inl a] S (.inl (some (.inl (A178 a S))), S, 0) := by
  unfold jP178 at hP
  obtain ⟨⟨n, hn, hI⟩, d0⟩ := hP
  exact x178 a S d0 (jc3 (jI_Cer hI) d0) (jzo7 _ _ _)
def jP179 (a : Int32) (S : zS) : Prop := ((∃ n, n < 490 ∧ jI n S)) ∧ (((¬ (a < 0)) ∧ (¬ ((S 11 0) ≤ a))))
set_option maxRecDepth 100000 in
theorem y179 {L : Nat} (a : Int32) (S : zS) (hP : jP179 a S) : zf L 179 [.inr (.inr 0), .inl a] S (.inl (some (.inl (A179 a S))), S, 0) := by
  unfold jP179 at hP
  obtain ⟨⟨n, hn, hI⟩, d0⟩ := hP
  exact x179 a S d0 (jzxC (jI_Cer hI) d0)
def jP180 (a b c d : Int32) (S : zS) : Prop := ((∃ n, n < 490 ∧ jI n S)) ∧ (zo b) ∧ (zo c) ∧ (((¬ (a < 0)) ∧ (¬ (3 ≤ a)))) ∧ (((¬ (d < 1)) ∧ (¬ (1000 < d))))
set_option maxRecDepth 100000 in
theorem y180 {L : Nat} (a b c d : Int32) (S : zS) (hP : jP180 a b c d S) : zf L 180 [.inr (.inr 0), .inl a, .inl b, .inl c, .inl d] S (.inl (some (.inl (A180 a b c d S))), (B180 a b c d S), 0) := by
  unfold jP180 at hP
  obtain ⟨⟨n, hn, hI⟩, hb, hc, d0, d1⟩ := hP
  exact x180 a b c d S d0 d1 ((by simp only [zk_lt, zk_le, zx_iff, zn] at *; first | omega | (simp only [show (0 : Int32).toInt = 0 from rfl, show (1 : Int32).toInt = 1 from rfl, show (-1 : Int32).toInt = -1 from rfl, show (2 : Int32).toInt = 2 from rfl, show (3 : Int32).toInt = 3 from rfl, show (4 : Int32).toInt = 4 from rfl, show (6 : Int32).toInt = 6 from rfl, show (8 : Int32).toInt = 8 from rfl, show (50 : Int32).toInt = 50 from rfl, show (100 : Int32).toInt = 100 from rfl, show (7 : Int32).toInt = 7 from rfl] at *; omega))) (hb) (hc) (rSin_0 (jI_Sin hI) _)
def jP181 (a : Int32) (S : zS) : Prop := ((∃ n, n < 490 ∧ jI n S)) ∧ (((¬ (a < 0)) ∧ (¬ (3 ≤ a))))
set_option maxRecDepth 100000 in
theorem y181 {L : Nat} (a : Int32) (S : zS) (hP : jP181 a S) : zf L 181 [.inr (.inr 0), .inl a] S (.inl (some (.inl (A181 a S))), S, 0) := by
  unfold jP181 at hP
  obtain ⟨⟨n, hn, hI⟩, d0⟩ := hP
  exact x181 a S d0 ((by simp only [zk_lt, zk_le, zx_iff, zn] at *; first | omega | (simp only [show (0 : Int32).toInt = 0 from rfl, show (1 : Int32).toInt = 1 from rfl, show (-1 : Int32).toInt = -1 from rfl, show (2 : Int32).toInt = 2 from rfl, show (3 : Int32).toInt = 3 from rfl, show (4 : Int32).toInt = 4 from rfl, show (6 : Int32).toInt = 6 from rfl, show (8 : Int32).toInt = 8 from rfl, show (50 : Int32).toInt = 50 from rfl, show (100 : Int32).toInt = 100 from rfl, show (7 : Int32).toInt = 7 from rfl] at *; omega)))
def jP182 (a : Int32) (S : zS) : Prop := ((∃ n, n < 490 ∧ jI n S)) ∧ (((¬ (a < 1)) ∧ (¬ (100 < a))))
set_option maxRecDepth 100000 in
theorem y182 {L : Nat} (a : Int32) (S : zS) (hP : jP182 a S) : zf L 182 [.inr (.inr 0), .inl a] S (.inl (some (.inl (A182 a S))), (B182 a S), 0) := by
  unfold jP182 at hP
  obtain ⟨⟨n, hn, hI⟩, d0⟩ := hP
  exact x182 a S d0 ((by simp only [zk_lt, zk_le, zx_iff, zn] at *; first | omega | (simp only [show (0 : Int32).toInt = 0 from rfl, show (1 : Int32).toInt = 1 from rfl, show (-1 : Int32).toInt = -1 from rfl, show (2 : Int32).toInt = 2 from rfl, show (3 : Int32).toInt = 3 from rfl, show (4 : Int32).toInt = 4 from rfl, show (6 : Int32).toInt = 6 from rfl, show (8 : Int32).toInt = 8 from rfl, show (50 : Int32).toInt = 50 from rfl, show (100 : Int32).toInt = 100 from rfl, show (7 : Int32).toInt = 7 from rfl] at *; omega))) (zn_mono (rFar_0 (jI_Far hI)) (by omega)) (zn_mono (rFar_1 (jI_Far hI)) (by omega)) (rFar_3 (jI_Far hI))
def jP183 (a b c : Int32) (S : zS) : Prop := ((∃ n, n < 490 ∧ jI n S)) ∧ (zn 39 a) ∧ ((((¬ (b < 0)) ∧ (¬ (216 ≤ b))) ∧ ((¬ (c < 0)) ∧ (¬ (9999 < c)))))
set_option maxRecDepth 100000 in
theorem y183 {L : Nat} (a b c : Int32) (S : zS) (hP : jP183 a b c S) : zf L 183 [.inr (.inr 0), .inl a, .inl b, .inl c] S (.inl (some (.inl (A183 a b c S))), S, 0) := by
  unfold jP183 at hP
  obtain ⟨⟨n, hn, hI⟩, ha, d0⟩ := hP
  have hx216 : zx 216 b := by
    have := d0
    simp only [zk_lt, zk_le, show (0 : Int32).toInt = 0 from rfl, show (216 : Int32).toInt = 216 from rfl] at this
    rw [zx_iff]; omega
  exact x183 a b c S d0 (fun _ => jzx39 ha) (fun h0 h1 h2 h3 => jp32 (congrFun rfl _) h2 (rTok_1 (jI_Tok hI) _)) (fun _ _ _ _ => hx216) (fun h0 h1 h2 h3 h4 => zx_107_9 hx216 h4)
def jP184 (a : Int32) (S : zS) : Prop := ((∃ n, n < 490 ∧ jI n S)) ∧ (((¬ (a < 1)) ∧ (¬ (50 < a))))
set_option maxRecDepth 100000 in
theorem y184 {L : Nat} (a : Int32) (S : zS) (hP : jP184 a S) : zf L 184 [.inr (.inr 0), .inl a] S (.inl (some (.inl (A184 a S))), (B184 a S), 0) := by
  unfold jP184 at hP
  obtain ⟨⟨n, hn, hI⟩, d0⟩ := hP
  exact x184 a S d0 ((by simp only [zk_lt, zk_le, zx_iff, zn] at *; first | omega | (simp only [show (0 : Int32).toInt = 0 from rfl, show (1 : Int32).toInt = 1 from rfl, show (-1 : Int32).toInt = -1 from rfl, show (2 : Int32).toInt = 2 from rfl, show (3 : Int32).toInt = 3 from rfl, show (4 : Int32).toInt = 4 from rfl, show (6 : Int32).toInt = 6 from rfl, show (8 : Int32).toInt = 8 from rfl, show (50 : Int32).toInt = 50 from rfl, show (100 : Int32).toInt = 100 from rfl, show (7 : Int32).toInt = 7 from rfl] at *; omega))) (rTok_0 (jI_Tok hI)) (rLea_0 (jI_Lea hI)) (rLea_1 (jI_Lea hI)) (rLea_2 (jI_Lea hI))
