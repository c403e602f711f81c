/-! mounting and unmounting (wip/whole/gen/gen94.py) -/
theorem zcf51 (x y : Int32) (lo : Nat) (X : zS) : ∀ n i, (zfold (k111_7_2 x y) lo n X) 51 i = if lo ≤ i ∧ i < lo + n then 0 else X 51 i := by
  intro n
  induction n with
  | zero => intro i; rw [if_neg (by omega)]; rfl
  | succ n ih =>
    intro i
    show (z_up (zfold (k111_7_2 x y) lo n X) 51 (lo + n) 0) 51 i = _
    rw [zup2, if_pos rfl, ih]
    by_cases e : i = lo + n
    · rw [if_pos e, if_pos (by omega)]
    · rw [if_neg e]
      by_cases e2 : lo ≤ i ∧ i < lo + n
      · rw [if_pos e2, if_pos (by omega)]
      · rw [if_neg e2, if_neg (by omega)]
theorem zcf59 (x y : Int32) (lo : Nat) (X : zS) : ∀ n i, (zfold (k111_9_2 x y) lo n X) 59 i = if lo ≤ i ∧ i < lo + n then 0 else X 59 i := by
  intro n
  induction n with
  | zero => intro i; rw [if_neg (by omega)]; rfl
  | succ n ih =>
    intro i
    show (z_up (zfold (k111_9_2 x y) lo n X) 59 (lo + n) 0) 59 i = _
    rw [zup2, if_pos rfl, ih]
    by_cases e : i = lo + n
    · rw [if_pos e, if_pos (by omega)]
    · rw [if_neg e]
      by_cases e2 : lo ≤ i ∧ i < lo + n
      · rw [if_pos e2, if_pos (by omega)]
      · rw [if_neg e2, if_neg (by omega)]
theorem zcf88 (x : Int32) (lo : Nat) (X : zS) : ∀ n i, (zfold (k238_4 x) lo n X) 88 i = (if lo ≤ i ∧ i < lo + n then 0 else X 88 i) ∧ (zfold (k238_4 x) lo n X) 92 i = (if lo ≤ i ∧ i < lo + n then 0 else X 92 i) := by
  intro n
  induction n with
  | zero => intro i; rw [if_neg (by omega), if_neg (by omega)]; exact ⟨rfl, rfl⟩
  | succ n ih =>
    intro i
    obtain ⟨i1, i2⟩ := ih i
    show (z_up (z_up (zfold (k238_4 x) lo n X) 88 (lo + n) 0) 92 (lo + n) 0) 88 i = _ ∧ (z_up (z_up (zfold (k238_4 x) lo n X) 88 (lo + n) 0) 92 (lo + n) 0) 92 i = _
    simp only [zup2, i1, i2, Nat.reduceEqDiff, reduceIte, ite_true, ite_false]
    by_cases e : i = lo + n
    · simp only [if_pos e]
      rw [if_pos (by omega), if_pos (by omega)]; exact ⟨rfl, rfl⟩
    · simp only [if_neg e]
      by_cases e2 : lo ≤ i ∧ i < lo + n
      · rw [if_pos e2, if_pos e2, if_pos (by omega), if_pos (by omega)]; exact ⟨rfl, rfl⟩
      · rw [if_neg e2, if_neg e2, if_neg (by omega), if_neg (by omega)]; exact ⟨rfl, rfl⟩
/-- how many are kept -/
def zcn (P : Nat → Bool) : Nat → Nat
  | 0 => 0
  | n + 1 => zcn P n + (if P n = true then 1 else 0)
theorem zcn_le (P : Nat → Bool) : ∀ n, zcn P n ≤ n
  | 0 => Nat.le_refl _
  | n + 1 => by
    have := zcn_le P n
    show zcn P n + (if P n = true then 1 else 0) ≤ n + 1
    split <;> omega
theorem zcn_m (P : Nat → Bool) {k n : Nat} (h : k ≤ n) : zcn P k ≤ zcn P n := by
  induction n with
  | zero => have : k = 0 := by omega
            rw [this]; exact Nat.le_refl _
  | succ n ih =>
    by_cases e : k = n + 1
    · rw [e]; exact Nat.le_refl _
    · exact Nat.le_trans (ih (by omega)) (Nat.le_add_right _ _)
theorem zcn_s (P : Nat → Bool) {k n : Nat} (h : k < n) (hp : P k = true) : zcn P k < zcn P n := by
  have h1 : zcn P (k + 1) ≤ zcn P n := zcn_m P h
  have h2 : zcn P (k + 1) = zcn P k + 1 := by show zcn P k + (if P k = true then 1 else 0) = _; rw [if_pos hp]
  omega
theorem zcn_on (P : Nat → Bool) : ∀ n q, q < zcn P n → ∃ k, k < n ∧ P k = true ∧ zcn P k = q
  | 0, q, h => absurd h (Nat.not_lt_zero q)
  | n + 1, q, h => by
    by_cases e : q < zcn P n
    · obtain ⟨k, h1, h2, h3⟩ := zcn_on P n q e
      exact ⟨k, by omega, h2, h3⟩
    · have h2 : q < zcn P n + (if P n = true then 1 else 0) := h
      by_cases c : P n = true
      · rw [if_pos c] at h2; exact ⟨n, Nat.lt_succ_self n, c, by omega⟩
      · rw [if_neg c] at h2; omega
/-- what holds of a row that is being drawn together from s on, n rounds of it done -/
def zDr (P : Nat → Bool) (s n B : Nat) (X Y : Nat → Int32) : Prop := (∀ k, k < n → P k = true → Y (s + zcn P k) = X (s + k)) ∧ (∀ i, s + zcn P n ≤ i → Y i = X i) ∧ (∀ i, i < B → ∃ i', i' < B ∧ Y i = X i')
theorem zDr_0 (P : Nat → Bool) (s B : Nat) (X : Nat → Int32) : zDr P s 0 B X X := ⟨fun k hk => absurd hk (Nat.not_lt_zero k), fun _ _ => rfl, fun i hi => ⟨i, hi, rfl⟩⟩
theorem zDr_n {P : Nat → Bool} {s n B : Nat} {X Y : Nat → Int32} (h : zDr P s n B X Y) (hp : ¬ P n = true) : zDr P s (n + 1) B X Y := by
  obtain ⟨h1, h2, h3⟩ := h
  have e : zcn P (n + 1) = zcn P n := by show zcn P n + (if P n = true then 1 else 0) = _; rw [if_neg hp]; rfl
  refine ⟨fun k hk hpk => ?_, fun i hi => h2 i (by omega), h3⟩
  by_cases ek : k = n
  · rw [ek] at hpk; exact absurd hpk hp
  · exact h1 k (by omega) hpk
theorem zDr_p {P : Nat → Bool} {s n B : Nat} {X Y : Nat → Int32} (h : zDr P s n B X Y) (hp : P n = true) (hB : s + n < B) : zDr P s (n + 1) B X (upd Y (s + zcn P n) (Y (s + n))) := by
  obtain ⟨h1, h2, h3⟩ := h
  have e : zcn P (n + 1) = zcn P n + 1 := by show zcn P n + (if P n = true then 1 else 0) = _; rw [if_pos hp]
  have hl := zcn_le P n
  refine ⟨fun k hk hpk => ?_, fun i hi => ?_, fun i hi => ?_⟩
  · rw [upd_r]
    by_cases ek : k = n
    · rw [ek, if_pos rfl]; exact h2 _ (by omega)
    · have := zcn_s P (show k < n by omega) hpk
      rw [if_neg (by omega)]; exact h1 k (by omega) hpk
  · rw [upd_r, if_neg (by omega)]; exact h2 i (by omega)
  · rw [upd_r]
    split
    · exact h3 _ hB
    · exact h3 i hi
theorem zDr_c {P : Nat → Bool} {s n B : Nat} {X Y Y' : Nat → Int32} (h : zDr P s n B X Y) (e : Y' = Y) : zDr P s n B X Y' := e ▸ h
/-- the log without the entries of some paths -/
theorem zRepF_f {N : Nat} {lp lv lt lp' lv' lt' hL hS hL0 : Nat → Int32} (P : Nat → Bool) (lo : Nat) (hh : ∀ p, p < 216 → hL0 p = if lo ≤ p ∧ p < lo + 36 then 0 else hL p) (hP : ∀ k, k < N → (P k = true ↔ ¬ (lo ≤ (lp k).toNatClampNeg ∧ (lp k).toNatClampNeg < lo + 36))) (hag : ∀ k, k < N → P k = true → lp' (zcn P k) = lp k ∧ lv' (zcn P k) = lv k ∧ lt' (zcn P k) = lt k) (hx : ∀ k, k < N → zx 216 (lp k)) : ∀ r, r ≤ N → ∀ fL fS fL0 fS0, (∀ p, p < 216 → fL0 p = if lo ≤ p ∧ p < lo + 36 then 0 else fL p) → (∀ p, p < 216 → ¬ (lo ≤ p ∧ p < lo + 36) → ∀ w, w < 4 → fS0 (p * 4 + w) = fS (p * 4 + w)) → zRepF N lp lv lt hL hS r fL fS → zRepF (zcn P N) lp' lv' lt' hL0 hS (zcn P N - zcn P (N - r)) fL0 fS0 := by
  intro r
  induction r with
  | zero =>
    intro _ fL fS fL0 fS0 h1 h2 h
    rw [Nat.sub_zero, Nat.sub_self]
    have h' : ∀ p, p < 216 → fL p = hL p ∧ ∀ v : Int, 1 ≤ v → v ≤ (hL p).toInt → (hL p).toInt - 4 < v → fS (p * 4 + (v % 4).toNat) = hS (p * 4 + (v % 4).toNat) := h
    show ∀ p, p < 216 → fL0 p = hL0 p ∧ ∀ v : Int, 1 ≤ v → v ≤ (hL0 p).toInt → (hL0 p).toInt - 4 < v → fS0 (p * 4 + (v % 4).toNat) = hS (p * 4 + (v % 4).toNat)
    intro p hp
    rw [h1 p hp, hh p hp]
    by_cases c : lo ≤ p ∧ p < lo + 36
    · rw [if_pos c, if_pos c]
      refine ⟨rfl, fun v v1 v2 _ => ?_⟩
      rw [zlt_0] at v2; omega
    · rw [if_neg c, if_neg c]
      obtain ⟨g1, g2⟩ := h' p hp
      refine ⟨g1, fun v v1 v2 v3 => ?_⟩
      rw [h2 p hp c (v % 4).toNat (by omega)]
      exact g2 v v1 v2 v3
  | succ r ih =>
    intro hr fL fS fL0 fS0 h1 h2 h
    rw [zRepF_s] at h
    have ek : N - r = N - (r + 1) + 1 := by omega
    have hkN : N - (r + 1) < N := by omega
    generalize hk : N - (r + 1) = k at *
    have hxk := hx k hkN
    have hpn : (lp k).toNatClampNeg < 216 := by rw [zx_iff] at hxk; have := zk_nat hxk.1; omega
    have hw4 : ((lv k).toInt % 4).toNat < 4 := by omega
    have hPk := hP k hkN
    by_cases c : P k = true
    · have hout := hPk.mp c
      have e1 : zcn P (k + 1) = zcn P k + 1 := by show zcn P k + (if P k = true then 1 else 0) = _; rw [if_pos c]
      have hle : zcn P (k + 1) ≤ zcn P N := zcn_m P (by omega)
      obtain ⟨g1, g2, g3⟩ := hag k hkN c
      have er : zcn P N - zcn P k = (zcn P N - zcn P (k + 1)) + 1 := by omega
      have ei : zcn P N - (zcn P N - zcn P (k + 1) + 1) = zcn P k := by omega
      rw [er, zRepF_s, ei, g1, g2, g3]
      rw [ek] at ih
      have q1 : fL0 (lp k).toNatClampNeg = fL (lp k).toNatClampNeg := by rw [h1 _ hpn, if_neg hout]
      have q2 : fS0 ((lp k).toNatClampNeg * 4 + ((lv k).toInt % 4).toNat) = fS ((lp k).toNatClampNeg * 4 + ((lv k).toInt % 4).toNat) := h2 _ hpn hout _ hw4
      by_cases cw : lt k = -1
      · rw [if_pos cw] at h ⊢
        refine ⟨by rw [q1]; exact h.1, ih (by omega) _ _ _ _ ?_ ?_ h.2⟩
        · intro p hp
          rw [upd_r, upd_r]
          by_cases e : p = (lp k).toNatClampNeg
          · rw [if_pos e, if_pos e, e, if_neg hout]
          · rw [if_neg e, if_neg e]; exact h1 p hp
        · intro p hp hc w hw
          rw [upd_r, upd_r]
          split
          · rfl
          · exact h2 p hp hc w hw
      · rw [if_neg cw] at h ⊢
        refine ⟨h.1, by rw [q1]; exact h.2.1, by rw [q1]; exact h.2.2.1, by rw [q2]; exact h.2.2.2.1, ih (by omega) _ _ _ _ h1 ?_ h.2.2.2.2⟩
        intro p hp hc w hw
        rw [upd_r, upd_r]
        split
        · rfl
        · exact h2 p hp hc w hw
    · have hin : lo ≤ (lp k).toNatClampNeg ∧ (lp k).toNatClampNeg < lo + 36 := Classical.byContradiction (fun w => c (hPk.mpr w))
      have e1 : zcn P (k + 1) = zcn P k := by show zcn P k + (if P k = true then 1 else 0) = _; rw [if_neg c]; rfl
      rw [ek, e1] at ih
      by_cases cw : lt k = -1
      · rw [if_pos cw] at h
        refine ih (by omega) _ _ _ _ ?_ ?_ h.2
        · intro p hp
          rw [upd_r]
          by_cases e : p = (lp k).toNatClampNeg
          · rw [if_pos e, h1 p hp, e, if_pos hin, if_pos hin]
          · rw [if_neg e]; exact h1 p hp
        · intro p hp hc w hw
          rw [upd_r, if_neg (fun e => hc (by omega))]
          exact h2 p hp hc w hw
      · rw [if_neg cw] at h
        refine ih (by omega) _ _ _ _ h1 ?_ h.2.2.2.2
        intro p hp hc w hw
        rw [upd_r, if_neg (fun e => hc (by omega))]
        exact h2 p hp hc w hw
/-- the reference's rows drawn together -/
theorem z27 (a : Int32) (P : Nat → Bool) (X : zS) (hP : ∀ k, k < (X 13 36).toNatClampNeg → (P k = true ↔ ¬ X 96 k / 36 = a)) (hN : (X 13 36).toNatClampNeg < 600) : ∀ n, n ≤ (X 13 36).toNatClampNeg → (zfold (k238_27 a) 0 n ((0 : Int32), X)).1 = Int32.ofNat (zcn P n) ∧ ∀ f, (f = 96 ∨ f = 97 ∨ f = 98 ∨ f = 99 ∨ f = 100) → zDr P 0 n 600 (X f) ((zfold (k238_27 a) 0 n ((0 : Int32), X)).2 f) := by
  intro n
  induction n with
  | zero => intro _; exact ⟨rfl, fun f _ => zDr_0 P 0 600 (X f)⟩
  | succ n ih =>
    intro hn
    obtain ⟨i1, i2⟩ := ih (by omega)
    have hst : zfold (k238_27 a) 0 (n + 1) ((0 : Int32), X) = k238_27 a (0 + n) (zfold (k238_27 a) 0 n ((0 : Int32), X)) := rfl
    rw [hst, Nat.zero_add]
    generalize zfold (k238_27 a) 0 n ((0 : Int32), X) = Y at i1 i2
    unfold k238_27
    dsimp only
    have hl := zcn_le P n
    have hY96 : Y.2 96 n = X 96 n := by
      obtain ⟨-, g, -⟩ := i2 96 (by simp)
      exact g n (by omega)
    have e1 : zcn P (n + 1) = zcn P n + (if P n = true then 1 else 0) := rfl
    rw [hY96, i1]
    by_cases c : P n = true
    · have c' := (hP n (by omega)).mp c
      rw [if_neg c', if_neg c', zk_ix _ (by omega)]
      refine ⟨by rw [e1, if_pos c, zk_add], fun f hf => ?_⟩
      have g := zDr_p (i2 f hf) c (by omega)
      rw [Nat.zero_add, Nat.zero_add] at g
      refine zDr_c g ?_
      rcases hf with rfl | rfl | rfl | rfl | rfl <;> simp only [zup1, zup2, Nat.reduceEqDiff, reduceIte, ite_true, ite_false, hY96]
    · have c' : X 96 n / 36 = a := Classical.byContradiction (fun w => c ((hP n (by omega)).mpr w))
      rw [if_pos c', if_pos c']
      exact ⟨by rw [e1, if_neg c]; rfl, fun f hf => zDr_n (i2 f hf) c⟩
/-- the class's -/
theorem z18 (x1 x2 : Int32) (P : Nat → Bool) (X : zS) (s N : Nat) (hP : ∀ k, k < N → (P k = true ↔ ¬ ((¬ X 55 (s + k) < x1) ∧ (¬ x2 ≤ X 55 (s + k))))) (hN : s + N ≤ 512) : ∀ n, n ≤ N → (zfold (k18_11 x1 x2) s n (Int32.ofNat s, X)).1 = Int32.ofNat (s + zcn P n) ∧ ∀ f, (f = 55 ∨ f = 56 ∨ f = 57 ∨ f = 58) → zDr P s n 512 (X f) ((zfold (k18_11 x1 x2) s n (Int32.ofNat s, X)).2 f) := by
  intro n
  induction n with
  | zero => intro _; exact ⟨rfl, fun f _ => zDr_0 P s 512 (X f)⟩
  | succ n ih =>
    intro hn
    obtain ⟨i1, i2⟩ := ih (by omega)
    have hst : zfold (k18_11 x1 x2) s (n + 1) (Int32.ofNat s, X) = k18_11 x1 x2 (s + n) (zfold (k18_11 x1 x2) s n (Int32.ofNat s, X)) := rfl
    rw [hst]
    generalize zfold (k18_11 x1 x2) s n (Int32.ofNat s, X) = Y at i1 i2
    unfold k18_11
    dsimp only
    have hl := zcn_le P n
    have hY : Y.2 55 (s + n) = X 55 (s + n) := by
      obtain ⟨-, g, -⟩ := i2 55 (by simp)
      exact g _ (by omega)
    have e1 : zcn P (n + 1) = zcn P n + (if P n = true then 1 else 0) := rfl
    have hPn := hP n (by omega)
    have keep : P n = true → Int32.ofNat (s + zcn P n) + 1 = Int32.ofNat (s + zcn P (n + 1)) ∧ ∀ f, (f = 55 ∨ f = 56 ∨ f = 57 ∨ f = 58) → zDr P s (n + 1) 512 (X f) ((G20 (Int32.ofNat (s + n)) (Int32.ofNat (s + zcn P n)) Y.2) f) := by
      intro c
      refine ⟨by rw [e1, if_pos c, zk_add]; rfl, fun f hf => ?_⟩
      have g := zDr_p (i2 f hf) c (by omega)
      refine zDr_c g ?_
      unfold G20
      rw [zk_ix _ (by omega), zk_ix _ (by omega)]
      rcases hf with rfl | rfl | rfl | rfl <;> simp only [zup1, zup2, Nat.reduceEqDiff, reduceIte, ite_true, ite_false]
    rw [hY, i1]
    by_cases c1 : X 55 (s + n) < x1
    · rw [if_pos c1, if_pos c1]
      exact keep (hPn.mpr (fun w => w.1 c1))
    · rw [if_neg c1, if_neg c1]
      by_cases c2 : X 55 (s + n) < x2
      · have c3 : ¬ x2 ≤ X 55 (s + n) := by rw [zk_lt] at c2; rw [zk_le]; omega
        have c : ¬ P n = true := fun w => hPn.mp w ⟨c1, c3⟩
        rw [if_pos c2, if_pos c2]
        exact ⟨by rw [e1, if_neg c]; rfl, fun f hf => zDr_n (i2 f hf) c⟩
      · have c3 : x2 ≤ X 55 (s + n) := by rw [zk_lt] at c2; rw [zk_le]; omega
        rw [if_neg c2, if_neg c2]
        exact keep (hPn.mpr (fun w => w.2 c3))
theorem zun1 {m : Nat} {S T : zS} (h : zR m S T) (hm : m ≤ 512) (a : Int32) (ha : zx 6 a) : zR m (G18 (a * 36) ((a * 36) + 36) (K111_7_2_S (a * 36) ((a * 36) + 36) (a * 36).toNatClampNeg S)) (z_up (K238_27_S a 0 0 (K238_4_S a (36 * a).toNatClampNeg T)) 13 36 (K238_27_c2 a 0 0 (K238_4_S a (36 * a).toNatClampNeg T))) := by
  have hQ := zR_Q h
  have hLg := zQ_Log hQ
  have hLg' := hLg
  have hFar := zQ_Far hQ
  have hSto := zQ_Sto hQ
  unfold zLog at hLg'
  obtain ⟨h0, h1, h2, h3, h4, h5, h6, h7, h8⟩ := hLg'
  have n0 := h0.1
  have n1 := h0.2
  have n2 := h1.1
  have k1 := zk_nat n0
  have k2 := zk_nat n2
  have q2 : (S 8 5 - S 8 6).toInt = (S 8 5).toInt - (S 8 6).toInt := zk_tsub (by omega) (by omega)
  have q3 : (T 13 36).toInt = (S 8 5).toInt - (S 8 6).toInt := by rw [h3]; exact q2
  have k3 := zk_nat (x := T 13 36) (by omega)
  have ha' := ha
  rw [zx_iff] at ha'
  have hna := zk_nat ha'.1
  have e36 : (36 : Int32).toInt = 36 := rfl
  have m1 : (a * 36).toInt = a.toInt * 36 := by rw [zk_tmul (by rw [e36]; omega) (by rw [e36]; omega), e36]
  have m2 : (a * 36 + 36).toInt = a.toInt * 36 + 36 := by rw [zk_tadd (by rw [e36]; omega) (by rw [e36]; omega), m1, e36]
  have mc : 36 * a = a * 36 := Int32.mul_comm _ _
  have nlo : (a * 36).toNatClampNeg = 36 * a.toNatClampNeg := by have := zk_nat (x := a * 36) (by omega); omega
  have nhi : (a * 36 + 36).toNatClampNeg = 36 * a.toNatClampNeg + 36 := by have := zk_nat (x := a * 36 + 36) (by omega); omega
  rw [mc, nlo]
  generalize hlo : 36 * a.toNatClampNeg = lo at *
  -- the stages
  have pS1 := p_K111_7_2_S (a * 36) (a * 36 + 36) lo S
  have s51 : ∀ i, (K111_7_2_S (a * 36) (a * 36 + 36) lo S) 51 i = if lo ≤ i ∧ i < lo + 36 then 0 else S 51 i := by
    intro i
    unfold K111_7_2_S K111_7_2
    rw [zcf51, nhi, show lo + 36 - lo = 36 by omega]
  have pT1 := p_K238_4_S a lo T
  have t88 : ∀ i, (K238_4_S a lo T) 88 i = (if lo ≤ i ∧ i < lo + 36 then 0 else T 88 i) ∧ (K238_4_S a lo T) 92 i = (if lo ≤ i ∧ i < lo + 36 then 0 else T 92 i) := by
    intro i
    unfold K238_4_S K238_4
    have e := zcf88 a lo T (((36 * a) + 36).toNatClampNeg - lo) i
    rw [mc, nhi, show lo + 36 - lo = 36 by omega] at e
    rw [mc, nhi, show lo + 36 - lo = 36 by omega]
    exact e
  generalize K111_7_2_S (a * 36) (a * 36 + 36) lo S = S1 at *
  generalize K238_4_S a lo T = T1 at *
  unfold G18
  rw [nlo]
  have pS2 := p_K111_9_2_S (a * 36) (a * 36 + 36) lo S1
  have s59 : ∀ i, (K111_9_2_S (a * 36) (a * 36 + 36) lo S1) 59 i = if lo ≤ i ∧ i < lo + 36 then 0 else S 59 i := by
    intro i
    unfold K111_9_2_S K111_9_2
    rw [zcf59, nhi, show lo + 36 - lo = 36 by omega, pS1.1 59 rfl]
  generalize K111_9_2_S (a * 36) (a * 36 + 36) lo S1 = S2 at *
  have zS2 : zkp [51, 59] [] S S2 := zkp_tr (zkp_tr zkp_S pS1 rfl rfl) pS2 rfl rfl
  have s51b : ∀ i, S2 51 i = if lo ≤ i ∧ i < lo + 36 then 0 else S 51 i := fun i => by rw [pS2.1 51 rfl]; exact s51 i
  have s85 : S2 8 5 = S 8 5 := zS2.2 8 5 rfl rfl
  have s86 : S2 8 6 = S 8 6 := zS2.2 8 6 rfl rfl
  have t36 : T1 13 36 = T 13 36 := congrFun (pT1.1 13 rfl) 36
  rw [s86]
  -- which entries stay
  have hPP : ∃ P : Nat → Bool, ∀ k, (P k = true ↔ ¬ T 96 k / 36 = a) := ⟨fun k => decide (¬ T 96 k / 36 = a), fun k => decide_eq_true_iff⟩
  obtain ⟨P, hP⟩ := hPP
  have hE : ∀ k, k < (T 13 36).toNatClampNeg → S 55 ((S 8 6).toNatClampNeg + k) = T 96 k ∧ zx 216 (T 96 k) := fun k hk => ⟨(h7 k hk).1, (h7 k hk).2.1⟩
  have hpath : ∀ p : Int32, zx 216 p → (((¬ p < a * 36) ∧ (¬ a * 36 + 36 ≤ p)) ↔ p / 36 = a) := fun p hp => (zpath1 a p ha hp).trans ⟨fun w => w.1, fun w => ⟨w, Or.inl rfl⟩⟩
  have hin : ∀ p : Int32, zx 216 p → ((lo ≤ p.toNatClampNeg ∧ p.toNatClampNeg < lo + 36) ↔ p / 36 = a) := by
    intro p hp
    rw [← hpath p hp, zk_lt, zk_le, m1, m2]
    rw [zx_iff] at hp
    have := zk_nat hp.1
    omega
  have L1 := z18 (a * 36) (a * 36 + 36) P S2 (S 8 6).toNatClampNeg (T 13 36).toNatClampNeg (fun k hk => by
    rw [hP, zS2.1 55 rfl, (hE k hk).1, hpath _ (hE k hk).2]) (by omega) (T 13 36).toNatClampNeg (Nat.le_refl _)
  have L2 := z27 a P T1 (fun k hk => by rw [hP, pT1.1 96 rfl]) (by rw [t36]; omega) (T 13 36).toNatClampNeg (by rw [t36]; exact Nat.le_refl _)
  have hM := zcn_le P (T 13 36).toNatClampNeg
  generalize hMM : zcn P (T 13 36).toNatClampNeg = M at *
  have eS3 : K18_11_S (a * 36) (a * 36 + 36) (S 8 6) (S 8 6).toNatClampNeg S2 = (zfold (k18_11 (a * 36) (a * 36 + 36)) (S 8 6).toNatClampNeg (T 13 36).toNatClampNeg (Int32.ofNat (S 8 6).toNatClampNeg, S2)).2 ∧ K18_11_c3 (a * 36) (a * 36 + 36) (S 8 6) (S 8 6).toNatClampNeg S2 = (zfold (k18_11 (a * 36) (a * 36 + 36)) (S 8 6).toNatClampNeg (T 13 36).toNatClampNeg (Int32.ofNat (S 8 6).toNatClampNeg, S2)).1 := by
    unfold K18_11_S K18_11_c3 K18_11
    rw [s85, zk_of n2, show (S 8 5).toNatClampNeg - (S 8 6).toNatClampNeg = (T 13 36).toNatClampNeg by omega]
    exact ⟨rfl, rfl⟩
  have eT2 : K238_27_S a 0 0 T1 = (zfold (k238_27 a) 0 (T 13 36).toNatClampNeg ((0 : Int32), T1)).2 ∧ K238_27_c2 a 0 0 T1 = (zfold (k238_27 a) 0 (T 13 36).toNatClampNeg ((0 : Int32), T1)).1 := by
    unfold K238_27_S K238_27_c2 K238_27
    rw [t36, Nat.sub_zero]
    exact ⟨rfl, rfl⟩
  have pS3 := p_K18_11_S (a * 36) (a * 36 + 36) (S 8 6) (S 8 6).toNatClampNeg S2
  have pT2 := p_K238_27_S a 0 0 T1
  rw [eS3.1] at pS3
  rw [eT2.1] at pT2
  rw [eS3.1, eS3.2, eT2.1, eT2.2, L1.1, L2.1]
  obtain ⟨-, L1d⟩ := L1
  obtain ⟨-, L2d⟩ := L2
  generalize (zfold (k18_11 (a * 36) (a * 36 + 36)) (S 8 6).toNatClampNeg (T 13 36).toNatClampNeg (Int32.ofNat (S 8 6).toNatClampNeg, S2)).2 = A at *
  generalize (zfold (k238_27 a) 0 (T 13 36).toNatClampNeg ((0 : Int32), T1)).2 = B at *
  have zA1 : zkp [51, 55, 56, 57, 58, 59] [] S A := zkp_tr (zkp_tr zkp_S zS2 rfl rfl) pS3 rfl rfl
  have zA2 : zkp [8, 51, 55, 56, 57, 58, 59] [8005] S (z_up A 8 5 (Int32.ofNat ((S 8 6).toNatClampNeg + M))) := zkp_upf (zkp_tr zkp_S zA1 rfl rfl) rfl rfl
  have zB1 : zkp [88, 92, 96, 97, 98, 99, 100] [] T B := zkp_tr (zkp_tr zkp_S pT1 rfl rfl) pT2 rfl rfl
  have zB2 : zkp [13, 88, 92, 96, 97, 98, 99, 100] [13036] T (z_up B 13 36 (Int32.ofNat M)) := zkp_upf (zkp_tr zkp_S zB1 rfl rfl) rfl rfl
  have a51 : A 51 = B 88 := by
    funext i
    rw [pS3.1 51 rfl, pT2.1 88 rfl, s51b, (t88 i).1, hSto.1]
  have a59 : A 59 = B 92 := by
    funext i
    rw [pS3.1 59 rfl, pT2.1 92 rfl, s59, (t88 i).2, hFar.1]
  have b88 : ∀ p, p < 216 → zn m (B 88 p) := by
    intro p hp
    rw [pT2.1 88 rfl, (t88 p).1]
    split
    · unfold zn; rw [zlt_0]; omega
    · exact hSto.2.2.2.2.1 p hp
  have b92 : ∀ p, p < 216 → zn m (B 92 p) := by
    intro p hp
    rw [pT2.1 92 rfl, (t88 p).2]
    split
    · unfold zn; rw [zlt_0]; omega
    · exact hFar.2.2.2.2 p hp
  have kS : zSto m (z_up A 8 5 (Int32.ofNat ((S 8 6).toNatClampNeg + M))) (z_up B 13 36 (Int32.ofNat M)) := by
    unfold zSto
    rw [zupc rfl, zupc rfl, zupc rfl, zupc rfl, zupc rfl, zupc rfl, zupc rfl, zupc rfl, zA1.1 52 rfl, zA1.1 53 rfl, zA1.1 54 rfl, zB1.1 89 rfl, zB1.1 90 rfl, zB1.1 91 rfl]
    exact ⟨a51, hSto.2.1, hSto.2.2.1, hSto.2.2.2.1, b88, hSto.2.2.2.2.2⟩
  have kF : zFar m (z_up A 8 5 (Int32.ofNat ((S 8 6).toNatClampNeg + M))) (z_up B 13 36 (Int32.ofNat M)) := by
    unfold zFar
    rw [zupc rfl, zupc rfl, zupc rfl, zupc rfl, zupc rfl, zupc rfl, zupc rfl, zupc rfl, zA1.1 60 rfl, zA1.1 61 rfl, zA1.1 62 rfl, zB1.1 93 rfl, zB1.1 94 rfl, zB1.1 95 rfl]
    exact ⟨a59, hFar.2.1, hFar.2.2.1, hFar.2.2.2.1, b92⟩
  have eM : (Int32.ofNat M).toInt = M := zk_ti _ (by omega)
  have eMn : (Int32.ofNat M).toNatClampNeg = M := zk_ix _ (by omega)
  have eL : (Int32.ofNat ((S 8 6).toNatClampNeg + M)).toInt = (S 8 6).toInt + M := by rw [zk_ti _ (by omega)]; omega
  have kL : zLog m (z_up A 8 5 (Int32.ofNat ((S 8 6).toNatClampNeg + M))) (z_up B 13 36 (Int32.ofNat M)) := by
    unfold zLog zEnt
    rw [zup_s, zup_s, show (z_up A 8 5 (Int32.ofNat ((S 8 6).toNatClampNeg + M))) 8 6 = S 8 6 from (zupf rfl).trans (zA1.2 8 6 rfl rfl), zupc rfl, zupc rfl, zupc rfl, zupc rfl, zupc rfl, zupc rfl, zupc rfl, zupc rfl, zupc rfl, zupc rfl, zupc rfl, zupc rfl, zupc rfl, eMn]
    refine ⟨?_, h1, by omega, ?_, ?_, ?_, ?_, ?_, ?_⟩
    · unfold zn; omega
    · apply zk_eq.mpr
      rw [zk_tsub (by omega) (by omega), eL, eM]; omega
    · intro j hj
      obtain ⟨i', q1, q2⟩ := (L1d 55 (by simp)).2.2 j hj
      rw [q2, zS2.1 55 rfl]; exact h4 i' q1
    · intro j hj
      obtain ⟨i', q1, q2⟩ := (L2d 96 (by simp)).2.2 j hj
      rw [q2, pT1.1 96 rfl]; exact h5 i' q1
    · intro j hj
      obtain ⟨i', q1, q2⟩ := (L2d 97 (by simp)).2.2 j hj
      rw [q2, pT1.1 97 rfl]; exact h6 i' q1
    · intro j hj
      rw [← hMM] at hj
      obtain ⟨k, g1, g2, g3⟩ := zcn_on P _ j hj
      have he := h7 k g1
      unfold zEnt at he
      have f96 := (L2d 96 (by simp)).1 k g1 g2
      have f97 := (L2d 97 (by simp)).1 k g1 g2
      have f98 := (L2d 98 (by simp)).1 k g1 g2
      have f99 := (L2d 99 (by simp)).1 k g1 g2
      have f100 := (L2d 100 (by simp)).1 k g1 g2
      have f55 := (L1d 55 (by simp)).1 k g1 g2
      have f56 := (L1d 56 (by simp)).1 k g1 g2
      have f57 := (L1d 57 (by simp)).1 k g1 g2
      have f58 := (L1d 58 (by simp)).1 k g1 g2
      rw [Nat.zero_add, Nat.zero_add, g3] at f96 f97 f98 f99 f100
      rw [g3] at f55 f56 f57 f58
      rw [f96, f97, f98, f99, f100, f55, f56, f57, f58, pT1.1 96 rfl, pT1.1 97 rfl, pT1.1 98 rfl, pT1.1 99 rfl, pT1.1 100 rfl, zS2.1 55 rfl, zS2.1 56 rfl, zS2.1 57 rfl, zS2.1 58 rfl]
      exact he
    · rw [zA1.1 62 rfl, zA1.1 54 rfl]
      have key := zRepF_f (N := (T 13 36).toNatClampNeg) (lp := fun k => T 96 k) (lv := fun k => T 97 k) (lt := fun k => T 98 k) (lp' := fun k => B 96 k) (lv' := fun k => B 97 k) (lt' := fun k => B 98 k) (hL := S 51) (hS := S 54) (hL0 := A 51) P lo (fun p _ => by rw [pS3.1 51 rfl]; exact s51b p) (fun k hk => by rw [hP, hin _ (hE k hk).2]) (fun k hk hpk => by
          have f96 := (L2d 96 (by simp)).1 k hk hpk
          have f97 := (L2d 97 (by simp)).1 k hk hpk
          have f98 := (L2d 98 (by simp)).1 k hk hpk
          rw [Nat.zero_add, Nat.zero_add] at f96 f97 f98
          rw [pT1.1 96 rfl] at f96
          rw [pT1.1 97 rfl] at f97
          rw [pT1.1 98 rfl] at f98
          exact ⟨f96, f97, f98⟩) (fun k hk => (hE k hk).2) (T 13 36).toNatClampNeg (Nat.le_refl _) (S 59) (S 62) (A 59) (S 62) (fun p _ => by rw [pS3.1 59 rfl]; exact s59 p) (fun _ _ _ _ _ => rfl) h8
      rw [Nat.sub_self, hMM] at key
      exact key
  exact zQ_R ⟨(zSeal_kc rfl zA2 (zSeal_km rfl zB2 (zQ_Seal hQ))), (zKey_kc rfl zA2 (zKey_km rfl zB2 (zQ_Key hQ))), (zEng_kc rfl zA2 (zEng_km rfl zB2 (zQ_Eng hQ))), (zRul_kc rfl zA2 (zRul_km rfl zB2 (zQ_Rul hQ))), (zPpl_kc rfl zA2 (zPpl_km rfl zB2 (zQ_Ppl hQ))), (zTok_kc rfl zA2 (zTok_km rfl zB2 (zQ_Tok hQ))), (zLea_kc rfl zA2 (zLea_km rfl zB2 (zQ_Lea hQ))), (zLT_kc rfl zA2 (zLT_km rfl zB2 (zQ_LT hQ))), kS, kF, kL, (zWra_kc rfl zA2 (zWra_km rfl zB2 (zQ_Wra hQ))), (zCas_kc rfl zA2 (zCas_km rfl zB2 (zQ_Cas hQ))), (zCer_kc rfl zA2 (zCer_km rfl zB2 (zQ_Cer hQ))), (zSin_kc rfl zA2 (zSin_km rfl zB2 (zQ_Sin hQ)))⟩ (zUse_kc rfl zA2 (zUse_km rfl zB2 (zR_Use h)))
theorem zun3 {m : Nat} {S T : zS} (h : zR m S T) (a x u : Int32) (ha : zx 6 a) : zR m (K35_2_S (a * 36) ((a * 36) + 36) 0 S) (K238_74_S a x u 0 T) := by
  have hQ := zR_Q h
  have hC := zQ_Cas hQ
  have pS := p_K35_2_S (a * 36) ((a * 36) + 36) 0 S
  have pT := p_K238_74_S a x u 0 T
  have kC : zCas (K35_2_S (a * 36) ((a * 36) + 36) 0 S) (K238_74_S a x u 0 T) := by
    unfold K35_2_S K35_2 K238_74_S K238_74
    rw [hC.1]
    have hcl := zn_cl hC.2.2.2.2.2.2.2.1
    refine (zfold_rel (I := fun (c d : zS) => zCas c d ∧ d 13 72 = T 13 72) ⟨hC, rfl⟩ (fun j c d hj hI => ?_)).1
    obtain ⟨hI, e72⟩ := hI
    rw [Nat.zero_add]
    have hI' := hI
    unfold zCas at hI
    obtain ⟨q0, q1, q2, q3, q4, q5, q6, q7, q8, q9, q10, q11, q12, q13⟩ := hI
    have hp := q10 j (by omega)
    have hpath := (zpath1 a (d 134 j) ha hp).trans ⟨fun w => w.1, fun w => ⟨w, Or.inl rfl⟩⟩
    have hz := q13 j (by omega)
    unfold k35_2 k238_74
    rw [q2]
    have stay : ¬ d 134 j / 36 = a → zCas c (z_up d 138 j (zb ((¬ ((d 138 j) = 0)) ∨ (((d 134 j) / 36) = a)))) ∧ (z_up d 138 j (zb ((¬ ((d 138 j) = 0)) ∨ (((d 134 j) / 36) = a)))) 13 72 = T 13 72 := by
      intro hn
      have e : d 138 j = zb ((¬ ((d 138 j) = 0)) ∨ (((d 134 j) / 36) = a)) := by
        rcases hz with e | e
        · rw [e]; exact (if_neg (fun w => w.elim (fun w => w rfl) hn)).symm
        · rw [e]; exact (if_pos (Or.inl (by decide))).symm
      rw [zup_id d 138 j _ e]
      exact ⟨hI', e72⟩
    by_cases c1 : d 134 j < a * 36
    · rw [if_pos c1]; exact stay (fun w => (hpath.mpr w).1 c1)
    · rw [if_neg c1]
      by_cases c2 : a * 36 + 36 ≤ d 134 j
      · rw [if_pos c2]; exact stay (fun w => (hpath.mpr w).2 c2)
      · rw [if_neg c2, show zb ((¬ ((d 138 j) = 0)) ∨ (((d 134 j) / 36) = a)) = 1 from if_pos (Or.inr (hpath.mp ⟨c1, c2⟩))]
        refine ⟨?_, (zupci rfl).trans e72⟩
        unfold zCas
        simp only [zup2, zup1, q0, q1, q2, q3, q4, q5, q6, Nat.reduceEqDiff, reduceIte, true_and, and_true, ite_true, ite_false]
        refine ⟨q7, ?_, q9, q10, q11, q12, ?_⟩
        · intro i hi
          rw [e72] at hi
          rw [if_neg (by omega)]; exact q8 i (by rw [e72]; exact hi)
        · intro i hi
          split
          · exact Or.inr rfl
          · exact q13 i hi
  exact zQ_R ⟨(zSeal_kc rfl pS (zSeal_km rfl pT (zQ_Seal hQ))), (zKey_kc rfl pS (zKey_km rfl pT (zQ_Key hQ))), (zEng_kc rfl pS (zEng_km rfl pT (zQ_Eng hQ))), (zRul_kc rfl pS (zRul_km rfl pT (zQ_Rul hQ))), (zPpl_kc rfl pS (zPpl_km rfl pT (zQ_Ppl hQ))), (zTok_kc rfl pS (zTok_km rfl pT (zQ_Tok hQ))), (zLea_kc rfl pS (zLea_km rfl pT (zQ_Lea hQ))), (zLT_kc rfl pS (zLT_km rfl pT (zQ_LT hQ))), (zSto_kc rfl pS (zSto_km rfl pT (zQ_Sto hQ))), (zFar_kc rfl pS (zFar_km rfl pT (zQ_Far hQ))), (zLog_kc rfl pS (zLog_km rfl pT (zQ_Log hQ))), (zWra_kc rfl pS (zWra_km rfl pT (zQ_Wra hQ))), kC, (zCer_kc rfl pS (zCer_km rfl pT (zQ_Cer hQ))), (zSin_kc rfl pS (zSin_km rfl pT (zQ_Sin hQ)))⟩ (zUse_kc rfl pS (zUse_km rfl pT (zR_Use h)))
theorem zun {m : Nat} {S T : zS} (h : zR m S T) (hm : m ≤ 512) (a : Int32) (ha : zx 6 a) : zR m (G209 a S) (G238 a T) ∧ (G238 a T) 13 0 = T 13 0 := by
  have h1 := zun1 h hm a ha
  unfold G209 G238
  have t0 : (z_up (K238_27_S a 0 0 (K238_4_S a (36 * a).toNatClampNeg T)) 13 36 (K238_27_c2 a 0 0 (K238_4_S a (36 * a).toNatClampNeg T))) 13 0 = T 13 0 := (zupf rfl).trans ((congrFun ((p_K238_27_S a 0 0 _).1 13 rfl) 0).trans (congrFun ((p_K238_4_S a _ T).1 13 rfl) 0))
  generalize G18 (a * 36) ((a * 36) + 36) (K111_7_2_S (a * 36) ((a * 36) + 36) (a * 36).toNatClampNeg S) = A at *
  generalize z_up (K238_27_S a 0 0 (K238_4_S a (36 * a).toNatClampNeg T)) 13 36 (K238_27_c2 a 0 0 (K238_4_S a (36 * a).toNatClampNeg T)) = B at *
  have hQ := zR_Q h1
  have c11 := (zQ_Key hQ).2.2.2.2.2.2.1
  have hz := zend (zQ_Lea hQ) (a * 36) ((a * 36) + 36) (A 0 11) a (-1) (none : Option zV) c11.symm (fun p hp => zpath1 a p ha hp)
  have pS := p_K53_4_S (a * 36) ((a * 36) + 36) (A 0 11) 0 0 A
  have pT := p_K271_4_S a (-1) 0 (none : Option zV) 0 B
  have h2 : zR m (K53_4_S (a * 36) ((a * 36) + 36) (A 0 11) 0 0 A) (K271_4_S a (-1) 0 (none : Option zV) 0 B) := zLstep h1 hz.1 hz.2.2 (zkp_tr zkp_S pS rfl rfl) (zkp_tr zkp_S pT rfl rfl)
  refine ⟨zun3 h2 a _ _ ha, ?_⟩
  rw [(p_K238_74_S a _ _ 0 _).2 13 0 rfl rfl, pT.2 13 0 rfl rfl]
  exact t0
theorem zEng_m {S T : zS} (h : zEng S T) (i : Nat) (v w : Int32) (hw : zx 3 w) : zEng (z_up (z_up S 16 i v) 17 i w) (z_up (z_up T 84 i v) 85 i w) := by
  unfold zEng at h ⊢
  obtain ⟨k0, k1, k2, k3, k4⟩ := h
  simp only [zup1, k0, k1, k2, k3, Nat.reduceEqDiff, reduceIte, true_and, and_true, ite_true, ite_false]
  intro j hj
  rw [upd_r]
  split
  · exact hw
  · exact k4 j hj
theorem zrq12 {n : Nat} {S T : zS} (q1 : Int32) (q2 : Int32) (q3 : Int32) (hn : n < 512) (h : zR n S T) : (((G236 q1 q2 q3 T) 13 0) = (F332_0 q1 q2 q3 S)) ∧ zR (n + 1) (G332_0 q1 q2 q3 S) (M12 q1 q2 q3 T) := by
  have hQ := zR_Q h
  have s16 : S 16 = T 84 := (zQ_Eng hQ).1
  have e5q : (5 < q1) = (6 ≤ q1) := propext (by simp only [zk_lt, zk_le, zlt_m1, zlt_0, zlt_1, zlt_2, zlt_3, zlt_4, zlt_5, zlt_6, zlt_7, zlt_8, zlt_9, zlt_10, zlt_15, zlt_16, zlt_20, zlt_24, zlt_30, zlt_36, zlt_39, zlt_40, zlt_50, zlt_72, zlt_100, zlt_199, zlt_200, zlt_215, zlt_216, zlt_255, zlt_256, zlt_1000, zlt_9999, zlt_65535, zlt_1000000000]; omega)
  have eV : (if (((¬ (q1 < 0)) ∧ (¬ (5 < q1))) ∧ (((¬ (q2 < (-1))) ∧ (¬ (2 < q2))) ∧ ((¬ (q3 < 0)) ∧ (¬ ((if (q2 = 1) then (2 : Int32) else 0) < q3))))) then ((if ((zb ((T 84 q1.toNatClampNeg) = (-1))) = (zb (q2 = (-1)))) then (2 : Int32) else 0) : Int32) else 1) = F332_0 q1 q2 q3 S := by
    unfold F332_0
    rw [s16]
    simp only [e5q]
    by_cases g : (((¬ (q1 < 0)) ∧ (¬ (6 ≤ q1))) ∧ (((¬ (q2 < (-1))) ∧ (¬ (2 < q2))) ∧ ((¬ (q3 < 0)) ∧ (¬ ((if (q2 = 1) then (2 : Int32) else 0) < q3)))))
    · rw [if_pos g, if_pos g]
      unfold zb
      by_cases c1 : q2 = -1 <;> by_cases c2 : T 84 q1.toNatClampNeg = -1 <;> simp [c1, c2]
    · rw [if_neg g, if_neg g]
  show (((G236 q1 q2 q3 T) 13 0) = (F332_0 q1 q2 q3 S)) ∧ zR (n + 1) (G332_0 q1 q2 q3 S) (G236 q1 q2 q3 T)
  by_cases hA : (((¬ (q1 < 0)) ∧ (¬ (6 ≤ q1))) ∧ (((¬ (q2 < (-1))) ∧ (¬ (2 < q2))) ∧ ((¬ (q3 < 0)) ∧ (¬ ((if (q2 = 1) then (2 : Int32) else 0) < q3)))))
  rotate_left
  · have eF : F332_0 q1 q2 q3 S = 1 := by unfold F332_0; rw [if_neg hA]
    have e1 : G236 q1 q2 q3 T = z_up T 13 0 1 := by unfold G236; rw [eV, eF, if_neg (show ¬ ((1 : Int32) = 0) by decide)]
    have e2 : G332_0 q1 q2 q3 S = S := by unfold G332_0; rw [if_neg hA]
    rw [e1, e2, eF]
    exact ⟨zup_s _ _ _ _, zQ_R (zQ_thr (zQ_up hQ) 1) (zU_thr (zR_Use h) 1)⟩
  by_cases hB : ((zb (q2 = (-1))) = (zb (¬ ((S 16 q1.toNatClampNeg) = (-1)))))
  rotate_left
  · have eF : F332_0 q1 q2 q3 S = 2 := by unfold F332_0; rw [if_pos hA, if_neg hB]
    have e1 : G236 q1 q2 q3 T = z_up T 13 0 2 := by unfold G236; rw [eV, eF, if_neg (show ¬ ((2 : Int32) = 0) by decide)]
    have e2 : G332_0 q1 q2 q3 S = S := by unfold G332_0; rw [if_pos hA, if_neg hB]
    rw [e1, e2, eF]
    exact ⟨zup_s _ _ _ _, zQ_R (zQ_thr (zQ_up hQ) 2) (zU_thr (zR_Use h) 2)⟩
  have eF : F332_0 q1 q2 q3 S = 0 := by unfold F332_0; rw [if_pos hA, if_pos hB]
  have e1 : G236 q1 q2 q3 T = (if (q2 = (-1)) then (G238 q1 (z_up (z_up (z_up T 13 0 0) 84 q1.toNatClampNeg q2) 85 q1.toNatClampNeg q3)) else (z_up (z_up (z_up T 13 0 0) 84 q1.toNatClampNeg q2) 85 q1.toNatClampNeg q3)) := by unfold G236; rw [eV, eF, if_pos rfl]
  have e2 : G332_0 q1 q2 q3 S = (if (q2 = (-1)) then (G209 q1 (z_up (z_up S 16 q1.toNatClampNeg q2) 17 q1.toNatClampNeg q3)) else (z_up (z_up S 16 q1.toNatClampNeg q2) 17 q1.toNatClampNeg q3)) := by unfold G332_0; rw [if_pos hA, if_pos hB]
  have ha : zx 6 q1 := by rw [zx_iff]; have := hA.1; simp only [zk_lt, zk_le, zlt_m1, zlt_0, zlt_1, zlt_2, zlt_3, zlt_4, zlt_5, zlt_6, zlt_7, zlt_8, zlt_9, zlt_10, zlt_15, zlt_16, zlt_20, zlt_24, zlt_30, zlt_36, zlt_39, zlt_40, zlt_50, zlt_72, zlt_100, zlt_199, zlt_200, zlt_215, zlt_216, zlt_255, zlt_256, zlt_1000, zlt_9999, zlt_65535, zlt_1000000000] at this; omega
  have hw : zx 3 q3 := by
    rw [zx_iff]
    have h3 := hA.2.2
    rw [zk_lt, zk_lt, zti_ite, zlt_0, zlt_2] at h3
    by_cases e : q2 = 1
    · rw [if_pos e] at h3; omega
    · rw [if_neg e] at h3; omega
  have hR0 : zR (n + 1) S (z_up T 13 0 0) := zQ_R (zQ_thr (zQ_up hQ) 0) (zU_thr (zR_Use h) 0)
  have hQ0 := zR_Q hR0
  have pS : zkp [16, 17] [] S (z_up (z_up S 16 q1.toNatClampNeg q2) 17 q1.toNatClampNeg q3) := zkp_up (zkp_up zkp_S rfl rfl) rfl rfl
  have pT : zkp [84, 85] [] (z_up T 13 0 0) (z_up (z_up (z_up T 13 0 0) 84 q1.toNatClampNeg q2) 85 q1.toNatClampNeg q3) := zkp_up (zkp_up zkp_S rfl rfl) rfl rfl
  have kE := zEng_m (zQ_Eng hQ0) q1.toNatClampNeg q2 q3 hw
  have hR1 : zR (n + 1) (z_up (z_up S 16 q1.toNatClampNeg q2) 17 q1.toNatClampNeg q3) (z_up (z_up (z_up T 13 0 0) 84 q1.toNatClampNeg q2) 85 q1.toNatClampNeg q3) := zQ_R ⟨(zSeal_kc rfl pS (zSeal_km rfl pT (zQ_Seal hQ0))), (zKey_kc rfl pS (zKey_km rfl pT (zQ_Key hQ0))), kE, (zRul_kc rfl pS (zRul_km rfl pT (zQ_Rul hQ0))), (zPpl_kc rfl pS (zPpl_km rfl pT (zQ_Ppl hQ0))), (zTok_kc rfl pS (zTok_km rfl pT (zQ_Tok hQ0))), (zLea_kc rfl pS (zLea_km rfl pT (zQ_Lea hQ0))), (zLT_kc rfl pS (zLT_km rfl pT (zQ_LT hQ0))), (zSto_kc rfl pS (zSto_km rfl pT (zQ_Sto hQ0))), (zFar_kc rfl pS (zFar_km rfl pT (zQ_Far hQ0))), (zLog_kc rfl pS (zLog_km rfl pT (zQ_Log hQ0))), (zWra_kc rfl pS (zWra_km rfl pT (zQ_Wra hQ0))), (zCas_kc rfl pS (zCas_km rfl pT (zQ_Cas hQ0))), (zCer_kc rfl pS (zCer_km rfl pT (zQ_Cer hQ0))), (zSin_kc rfl pS (zSin_km rfl pT (zQ_Sin hQ0)))⟩ (zUse_kc rfl pS (zUse_km rfl pT (zR_Use hR0)))
  have t0 : (z_up (z_up (z_up T 13 0 0) 84 q1.toNatClampNeg q2) 85 q1.toNatClampNeg q3) 13 0 = 0 := (zupci rfl).trans ((zupci rfl).trans (zup_s _ _ _ _))
  rw [e1, e2, eF]
  by_cases c : q2 = -1
  · rw [if_pos c, if_pos c]
    obtain ⟨w1, w2⟩ := zun hR1 (by omega) q1 ha
    exact ⟨w2.trans t0, w1⟩
  · rw [if_neg c, if_neg c]
    exact ⟨t0, hR1⟩
theorem zyr12 {n : Nat} {S T : zS} (q1 : Int32) (q2 : Int32) (q3 : Int32) (hn : n < 512) (h : zR n S T) : ((G236 q1 q2 q3 T) 13 0) = (F332_0 q1 q2 q3 S) := (zrq12 q1 q2 q3 hn h).1
theorem zyt12_Eng {n : Nat} {S T : zS} (q1 : Int32) (q2 : Int32) (q3 : Int32) (hn : n < 512) (h : zR n S T) : zEng (G332_0 q1 q2 q3 S) (M12 q1 q2 q3 T) := zR_Eng (zrq12 q1 q2 q3 hn h).2
theorem zyt12_Lea {n : Nat} {S T : zS} (q1 : Int32) (q2 : Int32) (q3 : Int32) (hn : n < 512) (h : zR n S T) : zLea (G332_0 q1 q2 q3 S) (M12 q1 q2 q3 T) := zR_Lea (zrq12 q1 q2 q3 hn h).2
theorem zyt12_LT {n : Nat} {S T : zS} (q1 : Int32) (q2 : Int32) (q3 : Int32) (hn : n < 512) (h : zR n S T) : zLT (G332_0 q1 q2 q3 S) (M12 q1 q2 q3 T) := zR_LT (zrq12 q1 q2 q3 hn h).2
theorem zyt12_Sto {n : Nat} {S T : zS} (q1 : Int32) (q2 : Int32) (q3 : Int32) (hn : n < 512) (h : zR n S T) : zSto (n + 1) (G332_0 q1 q2 q3 S) (M12 q1 q2 q3 T) := zR_Sto (zrq12 q1 q2 q3 hn h).2
theorem zyt12_Far {n : Nat} {S T : zS} (q1 : Int32) (q2 : Int32) (q3 : Int32) (hn : n < 512) (h : zR n S T) : zFar (n + 1) (G332_0 q1 q2 q3 S) (M12 q1 q2 q3 T) := zR_Far (zrq12 q1 q2 q3 hn h).2
theorem zyt12_Log {n : Nat} {S T : zS} (q1 : Int32) (q2 : Int32) (q3 : Int32) (hn : n < 512) (h : zR n S T) : zLog (n + 1) (G332_0 q1 q2 q3 S) (M12 q1 q2 q3 T) := zR_Log (zrq12 q1 q2 q3 hn h).2
theorem zyt12_Cas {n : Nat} {S T : zS} (q1 : Int32) (q2 : Int32) (q3 : Int32) (hn : n < 512) (h : zR n S T) : zCas (G332_0 q1 q2 q3 S) (M12 q1 q2 q3 T) := zR_Cas (zrq12 q1 q2 q3 hn h).2
