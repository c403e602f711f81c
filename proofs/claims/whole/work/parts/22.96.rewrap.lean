/-! call 10: rewrapping -/
theorem zwl_stop {α : Type} {c : α → Prop} [DecidablePred c] {f : α → α} {a : α} (h : c a) : ∀ n, zwl c f n a = a
  | 0 => rfl
  | n + 1 => by show (if c (zwl c f n a) then zwl c f n a else f (zwl c f n a)) = a; rw [zwl_stop h n, if_pos h]
theorem zwl_add {α : Type} {c : α → Prop} [DecidablePred c] {f : α → α} {a : α} {m : Nat} : ∀ k, zwl c f (m + k) a = zwl c f k (zwl c f m a)
  | 0 => rfl
  | k + 1 => by
    show (if c (zwl c f (m + k) a) then zwl c f (m + k) a else f (zwl c f (m + k) a)) = (if c (zwl c f k (zwl c f m a)) then zwl c f k (zwl c f m a) else f (zwl c f k (zwl c f m a)))
    rw [zwl_add k]
theorem zwl_sim {α β : Type} {c : α → Prop} [DecidablePred c] {c' : β → Prop} [DecidablePred c'] {f : α → α} {g : β → β} {R : α → β → Prop} {a : α} {b : β} (hc : ∀ a b, R a b → (c a ↔ c' b)) (hs : ∀ a b, R a b → ¬ c' b → R (f a) (g b)) (h0 : R a b) : ∀ n, R (zwl c f n a) (zwl c' g n b)
  | 0 => h0
  | n + 1 => by
    have ih := zwl_sim hc hs h0 n
    show R (if c (zwl c f n a) then zwl c f n a else f (zwl c f n a)) (if c' (zwl c' g n b) then zwl c' g n b else g (zwl c' g n b))
    by_cases h : c' (zwl c' g n b)
    · rw [if_pos h, if_pos ((hc _ _ ih).mpr h)]; exact ih
    · rw [if_neg h, if_neg (fun e => h ((hc _ _ ih).mp e))]; exact hs _ _ ih h
/-- what holds within a rewrapping, c entries behind it -/
def zWs (M : Nat) (S T : zS) (c : Int32) (A B : zS) : Prop := zKeyN (M + c.toNatClampNeg) A B ∧ A 51 = S 51 ∧ A 52 = S 52 ∧ A 54 = S 54 ∧ B 88 = T 88 ∧ B 89 = T 89 ∧ B 91 = T 91 ∧ B 13 1 = T 13 1 ∧ A 53 = B 90
def zWr (M : Nat) (x1 L : Int32) (S T : zS) (a b : Int32 × Int32 × Option zV × zS) : Prop := a.1 = b.1 ∧ 0 ≤ b.1.toInt ∧ b.1.toInt ≤ 50 ∧ a.2.1 = b.2.1 ∧ 1 ≤ b.2.1.toInt ∧ L.toInt - 3 ≤ b.2.1.toInt ∧ b.2.1.toInt ≤ L.toInt + 1 ∧ zWs M S T b.1 a.2.2.2 b.2.2.2
theorem zrem4p {v : Int32} (h0 : 0 ≤ v.toInt) (h1 : v.toInt ≤ 1000) : zrem (v + 4) 4 = zrem v 4 := by
  have e4 : (4 : Int32).toInt = 4 := rfl
  have e : (v + 4).toInt = v.toInt + 4 := by rw [zk_tadd (by omega) (by omega), e4]
  apply Int32.toInt_inj.mp
  rw [zrem_nn (by decide) (by omega), zrem_nn (by decide) h0, e, e4]
  omega
theorem zw_idx {v : Int32} (A : zS) (x : Int32) (h0 : 0 ≤ v.toInt) (h1 : v.toInt ≤ 1000) : ((x * 4) + (F323 v 4 A)) = ((4 * x) + (zrem (v + 4) 4)) := by
  rw [zfm_4 A h0, zrem4p h0 h1, Int32.mul_comm]
/-- one version -/
theorem zw_step2 {M : Nat} {x1 x3 x4 x6 : Int32} {S T : zS} (hM : M < 900000) (h1 : x1.toInt ≤ 50) (h3 : x3 = T 13 1) (hL : zn 512 (T 88 x6.toNatClampNeg)) (e51 : S 51 = T 88) (e54 : S 54 = T 91) (a b : Int32 × Int32 × Option zV × zS) (h : zWr M x1 (T 88 x6.toNatClampNeg) S T a b) (hc : ¬ c234_37 x1 x4 x6 b = true) :
    zWr M x1 (T 88 x6.toNatClampNeg) S T (kw112_7_2_21 x1 x3 x4 x6 a) (kw234_37 x1 x4 x6 b) := by
  obtain ⟨a1, a2, a3, A⟩ := a
  obtain ⟨b1, b2, b3, B⟩ := b
  unfold zWr at h
  obtain ⟨r1, r2, r3, r4, r5, r6, r7, r8⟩ := h
  simp only at r1 r2 r3 r4 r5 r6 r7 r8
  subst r1
  subst r4
  have r8' := r8
  unfold zWs at r8
  obtain ⟨k, s51, s52, s54, t88, t89, t91, t13, s53⟩ := r8
  unfold c234_37 at hc
  rw [Bool.or_eq_true, decide_eq_true_eq, decide_eq_true_eq] at hc
  simp only [t88] at hc
  have c1 : ¬ T 88 x6.toNatClampNeg < a2 := fun e => hc (Or.inl e)
  have c2 : ¬ x1 ≤ a1 := fun e => hc (Or.inr e)
  unfold zn at hL
  have hidx := zw_idx (v := a2) A x6 (by omega) (by omega)
  have c1' := c1
  rw [zk_lt] at c1'
  rw [zk_le] at c2
  have l4 : (T 88 x6.toNatClampNeg - 4).toInt = (T 88 x6.toNatClampNeg).toInt - 4 := by
    have e4 : (4 : Int32).toInt = 4 := rfl
    rw [zk_tsub (by omega) (by omega), e4]
  have g : (¬ a2 < 1) ∧ ((¬ (T 88 x6.toNatClampNeg < a2)) ∧ (¬ (a2 ≤ (T 88 x6.toNatClampNeg - 4)))) := by
    refine ⟨?_, c1, ?_⟩
    · rw [zk_lt, show (1 : Int32).toInt = 1 from rfl]; omega
    · rw [zk_le, l4]; omega
  have v1 : (a2 + 1).toInt = a2.toInt + 1 := by
    have e1 : (1 : Int32).toInt = 1 := rfl
    rw [zk_tadd (by omega) (by omega), e1]
  have n1 : (a1 + 1).toInt = a1.toInt + 1 := by
    have e1 : (1 : Int32).toInt = 1 := rfl
    rw [zk_tadd (by omega) (by omega), e1]
  have k0 := zk_nat (x := a1) r2
  have k1 := zk_nat (x := a1 + 1) (by omega)
  have hk := k
  unfold zKeyN at k
  have sk3 : A 2 3 = B 13 18 := k.2.2.2.1
  unfold kw112_7_2_21 kw234_37 zWr
  simp only [hidx, t88, if_pos g, s54, e54, t91, s53, sk3]
  generalize ((4 * x6) + (zrem (a2 + 4) 4)).toNatClampNeg = pl
  by_cases d1 : T 91 pl = 2
  · simp only [if_pos d1]; exact ⟨trivial, r2, r3, trivial, by omega, by omega, by omega, r8'⟩
  by_cases d2 : x4 ≤ B 90 pl
  · simp only [if_neg d1, if_pos d2]; exact ⟨trivial, r2, r3, trivial, by omega, by omega, by omega, r8'⟩
  by_cases d3 : B 90 pl < B 13 18
  · simp only [if_neg d1, if_neg d2, if_pos d3]; exact ⟨trivial, r2, r3, trivial, by omega, by omega, by omega, r8'⟩
  simp only [if_neg d1, if_neg d2, if_neg d3]
  obtain ⟨z1, z2, z3, z4⟩ := zkeep hk (by omega)
  rw [t13, ← h3] at z1 z2
  have p1 := p_G41 x3 A
  have p2 := p_G229 B
  refine ⟨trivial, by omega, by omega, trivial, by omega, by omega, by omega, ?_⟩
  unfold zWs
  refine ⟨?_, ?_, ?_, ?_, ?_, ?_, ?_, ?_, ?_⟩
  · have e : M + (a1 + 1).toNatClampNeg = M + a1.toNatClampNeg + 1 := by omega
    rw [e]
    unfold zKeyN at z1 ⊢
    simp only [zup2, Nat.reduceEqDiff, reduceIte]
    exact z1
  · rw [zup1, if_neg (by decide), p1.1 51 rfl]; exact s51
  · rw [zup1, if_neg (by decide), p1.1 52 rfl]; exact s52
  · rw [zup1, if_neg (by decide), p1.1 54 rfl]; exact s54
  · rw [zup1, if_neg (by decide), p2.1 88 rfl]; exact t88
  · rw [zup1, if_neg (by decide), p2.1 89 rfl]; exact t89
  · rw [zup1, if_neg (by decide), p2.1 91 rfl]; exact t91
  · rw [zup2, if_neg (by decide), z4]; exact t13
  · rw [zup1, if_pos rfl, zup1, if_pos rfl, p1.1 53 rfl, p2.1 90 rfl, s53, z2]
/-- one path -/
theorem zw_path {M : Nat} {x1 x3 x4 x6 c : Int32} {u v : Option zV} {S T A B : zS} (hM : M < 900000) (h1 : x1.toInt ≤ 50) (h3 : x3 = T 13 1) (hL : zn 512 (T 88 x6.toNatClampNeg)) (e51 : S 51 = T 88) (e54 : S 54 = T 91) (c0 : 0 ≤ c.toInt) (c5 : c.toInt ≤ 50) (h : zWs M S T c A B) :
    ∃ a b, K112_7_2_21 x1 x3 x4 c x6 (zmax 1 (((A 51 x6.toNatClampNeg) - 4) + 1)) u A = a ∧ K234_37 x1 c x4 x6 (((B 88 x6.toNatClampNeg) - 4) + 1) v B = b ∧ a.1 = b.1 ∧ 0 ≤ b.1.toInt ∧ b.1.toInt ≤ 50 ∧ zWs M S T b.1 a.2.2.2 b.2.2.2 := by
  refine ⟨_, _, rfl, rfl, ?_⟩
  have hh := h
  unfold zWs at h
  obtain ⟨k, s51, s52, s54, t88, t89, t91, t13, s53⟩ := h
  unfold K112_7_2_21 K234_37
  rw [s51, e51, t88]
  have e0 : 4 + (x1 - x1).toNatClampNeg = 4 := by rw [Int32.sub_self]; rfl
  rw [e0]
  by_cases hx : x1 ≤ c
  · have s1 : c112_7_2_21 x1 x3 x4 x6 (c, zmax 1 (((T 88 x6.toNatClampNeg) - 4) + 1), u, A) = true := by
      unfold c112_7_2_21; rw [Bool.or_eq_true, decide_eq_true_eq, decide_eq_true_eq]; exact Or.inr hx
    have s2 : c234_37 x1 x4 x6 (c, (((T 88 x6.toNatClampNeg) - 4) + 1), v, B) = true := by
      unfold c234_37; rw [Bool.or_eq_true, decide_eq_true_eq, decide_eq_true_eq]; exact Or.inr hx
    rw [zwl_stop (c := fun a => c112_7_2_21 x1 x3 x4 x6 a = true) s1, zwl_stop (c := fun a => c234_37 x1 x4 x6 a = true) s2]
    exact ⟨rfl, c0, c5, hh⟩
  unfold zn at hL
  have e4 : (4 : Int32).toInt = 4 := rfl
  have e1 : (1 : Int32).toInt = 1 := rfl
  have w0 : (((T 88 x6.toNatClampNeg) - 4) + 1).toInt = (T 88 x6.toNatClampNeg).toInt - 3 := by
    have e5 : ((T 88 x6.toNatClampNeg) - 4).toInt = (T 88 x6.toNatClampNeg).toInt - 4 := by rw [zk_tsub (by omega) (by omega), e4]
    rw [zk_tadd (by omega) (by omega), e5, e1]; omega
  generalize hw : (((T 88 x6.toNatClampNeg) - 4) + 1) = w at *
  obtain ⟨d, hd⟩ : ∃ d : Nat, d = (4 - (T 88 x6.toNatClampNeg).toInt).toNat := ⟨_, rfl⟩
  have hd4 : d ≤ 4 := by omega
  have v0 : (zmax 1 w).toInt = w.toInt + d := by
    unfold zmax
    by_cases e : 1 < w
    · rw [if_pos e]; rw [zk_lt] at e; omega
    · rw [if_neg e]; rw [zk_lt] at e; omega
  -- the reference's first steps do nothing
  have pre : ∀ m : Nat, m ≤ d → (zwl (fun a => c234_37 x1 x4 x6 a = true) (kw234_37 x1 x4 x6) m (c, w, v, B)).1 = c ∧ (zwl (fun a => c234_37 x1 x4 x6 a = true) (kw234_37 x1 x4 x6) m (c, w, v, B)).2.1.toInt = w.toInt + m ∧ (zwl (fun a => c234_37 x1 x4 x6 a = true) (kw234_37 x1 x4 x6) m (c, w, v, B)).2.2.2 = B := by
    intro m
    induction m with
    | zero => intro _; exact ⟨rfl, by show w.toInt = w.toInt + ((0 : Nat) : Int); omega, rfl⟩
    | succ m ih =>
      intro hm
      obtain ⟨i1, i2, i3⟩ := ih (by omega)
      have hu : zwl (fun a => c234_37 x1 x4 x6 a = true) (kw234_37 x1 x4 x6) (m + 1) (c, w, v, B) = (if c234_37 x1 x4 x6 (zwl (fun a => c234_37 x1 x4 x6 a = true) (kw234_37 x1 x4 x6) m (c, w, v, B)) = true then zwl (fun a => c234_37 x1 x4 x6 a = true) (kw234_37 x1 x4 x6) m (c, w, v, B) else kw234_37 x1 x4 x6 (zwl (fun a => c234_37 x1 x4 x6 a = true) (kw234_37 x1 x4 x6) m (c, w, v, B))) := rfl
      rw [hu]
      generalize zwl (fun a => c234_37 x1 x4 x6 a = true) (kw234_37 x1 x4 x6) m (c, w, v, B) = z at *
      obtain ⟨z1, z2, z3, Z⟩ := z
      simp only at i1 i2 i3
      subst i1
      subst i3
      have hn : ¬ c234_37 x1 x4 x6 (z1, z2, z3, Z) = true := by
        unfold c234_37
        rw [Bool.or_eq_true, decide_eq_true_eq, decide_eq_true_eq]
        simp only [t88]
        rintro (e | e)
        · rw [zk_lt] at e; omega
        · exact hx e
      rw [if_neg hn]
      have g : ¬ ((¬ z2 < 1) ∧ ((¬ (T 88 x6.toNatClampNeg < z2)) ∧ (¬ (z2 ≤ (T 88 x6.toNatClampNeg - 4))))) := by
        rintro ⟨g1, _⟩
        rw [zk_lt, e1] at g1
        omega
      unfold kw234_37
      simp only [t88, if_neg g, true_and, and_true]
      rw [zk_tadd (by omega) (by omega), e1, i2]
      omega
  obtain ⟨b1, b2, b3⟩ := pre d (Nat.le_refl d)
  have e44 : 4 = d + (4 - d) := by omega
  have e45 : 4 = (4 - d) + d := by omega
  have hB : zwl (fun a => c234_37 x1 x4 x6 a = true) (kw234_37 x1 x4 x6) 4 (c, w, v, B) = zwl (fun a => c234_37 x1 x4 x6 a = true) (kw234_37 x1 x4 x6) (4 - d) (zwl (fun a => c234_37 x1 x4 x6 a = true) (kw234_37 x1 x4 x6) d (c, w, v, B)) := by
    rw [← zwl_add, ← e44]
  have hA : zwl (fun a => c112_7_2_21 x1 x3 x4 x6 a = true) (kw112_7_2_21 x1 x3 x4 x6) 4 (c, zmax 1 w, u, A) = zwl (fun a => c112_7_2_21 x1 x3 x4 x6 a = true) (kw112_7_2_21 x1 x3 x4 x6) d (zwl (fun a => c112_7_2_21 x1 x3 x4 x6 a = true) (kw112_7_2_21 x1 x3 x4 x6) (4 - d) (c, zmax 1 w, u, A)) := by
    rw [← zwl_add, ← e45]
  rw [hB, hA]
  generalize zwl (fun a => c234_37 x1 x4 x6 a = true) (kw234_37 x1 x4 x6) d (c, w, v, B) = Y at *
  obtain ⟨y1, y2, y3, Y⟩ := Y
  simp only at b1 b2 b3
  subst b1
  subst b3
  have ey : zmax 1 w = y2 := by apply Int32.toInt_inj.mp; rw [v0, b2]
  have hcc : ∀ a b, zWr M x1 (T 88 x6.toNatClampNeg) S T a b → ((fun a => c112_7_2_21 x1 x3 x4 x6 a = true) a ↔ (fun a => c234_37 x1 x4 x6 a = true) b) := by
    intro a b hr
    unfold zWr zWs at hr
    obtain ⟨r1, _, _, r4, _, _, _, _, r51, _, _, r88, _⟩ := hr
    simp only [c112_7_2_21, c234_37]
    rw [r51, e51, r88, r1, r4]
  have st := fun m => zwl_sim (c := fun a => c112_7_2_21 x1 x3 x4 x6 a = true) (c' := fun a => c234_37 x1 x4 x6 a = true) (f := kw112_7_2_21 x1 x3 x4 x6) (g := kw234_37 x1 x4 x6) hcc (fun a b hr hn => zw_step2 hM h1 h3 ⟨hL.1, hL.2⟩ e51 e54 a b hr hn) (a := (y1, zmax 1 w, u, A)) (b := (y1, y2, y3, Y)) (by
    unfold zWr
    refine ⟨rfl, c0, c5, ey, ?_, ?_, ?_, hh⟩
    · show 1 ≤ y2.toInt; omega
    · show _ ≤ y2.toInt; omega
    · show y2.toInt ≤ _; omega) m
  -- what is left of the class's loop does nothing
  have stop : zwl (fun a => c112_7_2_21 x1 x3 x4 x6 a = true) (kw112_7_2_21 x1 x3 x4 x6) d (zwl (fun a => c112_7_2_21 x1 x3 x4 x6 a = true) (kw112_7_2_21 x1 x3 x4 x6) (4 - d) (y1, zmax 1 w, u, A)) = zwl (fun a => c112_7_2_21 x1 x3 x4 x6 a = true) (kw112_7_2_21 x1 x3 x4 x6) (4 - d) (y1, zmax 1 w, u, A) := by
    by_cases hd0 : d = 0
    · rw [hd0]; rfl
    · refine zwl_stop (c := fun a => c112_7_2_21 x1 x3 x4 x6 a = true) ?_ d
      have gen : ∀ m : Nat, (c112_7_2_21 x1 x3 x4 x6 (zwl (fun a => c112_7_2_21 x1 x3 x4 x6 a = true) (kw112_7_2_21 x1 x3 x4 x6) m (y1, zmax 1 w, u, A)) = true) ∨ (m ≤ 4 → (zwl (fun a => c112_7_2_21 x1 x3 x4 x6 a = true) (kw112_7_2_21 x1 x3 x4 x6) m (y1, zmax 1 w, u, A)).2.1.toInt = (zmax 1 w).toInt + m) := by
        intro m
        induction m with
        | zero => right; intro _; show (zmax 1 w).toInt = (zmax 1 w).toInt + ((0 : Nat) : Int); omega
        | succ m ih =>
          have hu : zwl (fun a => c112_7_2_21 x1 x3 x4 x6 a = true) (kw112_7_2_21 x1 x3 x4 x6) (m + 1) (y1, zmax 1 w, u, A) = (if c112_7_2_21 x1 x3 x4 x6 (zwl (fun a => c112_7_2_21 x1 x3 x4 x6 a = true) (kw112_7_2_21 x1 x3 x4 x6) m (y1, zmax 1 w, u, A)) = true then zwl (fun a => c112_7_2_21 x1 x3 x4 x6 a = true) (kw112_7_2_21 x1 x3 x4 x6) m (y1, zmax 1 w, u, A) else kw112_7_2_21 x1 x3 x4 x6 (zwl (fun a => c112_7_2_21 x1 x3 x4 x6 a = true) (kw112_7_2_21 x1 x3 x4 x6) m (y1, zmax 1 w, u, A))) := rfl
          rw [hu]
          by_cases e : c112_7_2_21 x1 x3 x4 x6 (zwl (fun a => c112_7_2_21 x1 x3 x4 x6 a = true) (kw112_7_2_21 x1 x3 x4 x6) m (y1, zmax 1 w, u, A)) = true
          · rw [if_pos e]; exact Or.inl e
          · rw [if_neg e]
            right
            intro hm
            have ih' := ih.resolve_left e (by omega)
            generalize zwl (fun a => c112_7_2_21 x1 x3 x4 x6 a = true) (kw112_7_2_21 x1 x3 x4 x6) m (y1, zmax 1 w, u, A) = z at *
            show (z.2.1 + 1).toInt = _
            rw [zk_tadd (by omega) (by omega), e1, ih']
            omega
      rcases gen (4 - d) with g | g
      · exact g
      · have g' := g (by omega)
        have hr := (st (4 - d)).2.2.2.2.2.2.2
        have r51 := hr.2.1
        generalize zwl (fun a => c112_7_2_21 x1 x3 x4 x6 a = true) (kw112_7_2_21 x1 x3 x4 x6) (4 - d) (y1, zmax 1 w, u, A) = z at *
        unfold c112_7_2_21
        rw [Bool.or_eq_true, decide_eq_true_eq, decide_eq_true_eq, r51, e51]
        left
        rw [zk_lt]
        omega
  rw [stop]
  have hf := st (4 - d)
  exact ⟨hf.1, hf.2.1, hf.2.2.1, hf.2.2.2.2.2.2.2⟩
/-- the whole rewrapping -/
theorem zrwp {n : Nat} {S T : zS} (h : zQ n S T) (hn : n < 512) (q1 : Int32) (hq : q1.toInt ≤ 50) :
    K112_7_2_7_c5 q1 (S 0 11) (S 2 0) 0 none none 0 S = K234_25_c2 q1 0 (T 13 13) none none 0 T ∧ zKey (n + 1) (K112_7_2_7_S q1 (S 0 11) (S 2 0) 0 none none 0 S) (K234_25_S q1 0 (T 13 13) none none 0 T) ∧ zSto (n + 1) (K112_7_2_7_S q1 (S 0 11) (S 2 0) 0 none none 0 S) (K234_25_S q1 0 (T 13 13) none none 0 T) := by
  have hK := zQ_Key h
  have hS := zQ_Sto h
  unfold zKey at hK
  unfold zSto at hS
  obtain ⟨e0, e1, e2, e3, e4, e5, e6, e7, e8, e9⟩ := hK
  obtain ⟨e51, e53, e54, e52, hv, hnum, hst⟩ := hS
  have main := zfold_sim (f := k112_7_2_7 q1 (S 0 11) (S 2 0)) (g := k234_25 q1 (T 13 13)) (i := 0) (n := 216) (a := ((0 : Int32), (none : Option zV), (none : Option zV), S)) (b := ((0 : Int32), (none : Option zV), (none : Option zV), T))
    (I := fun _ c d => c.1 = d.1 ∧ 0 ≤ d.1.toInt ∧ d.1.toInt ≤ 50 ∧ zWs (1 + 60 * n) S T d.1 c.2.2.2 d.2.2.2)
    ⟨rfl, show (0 : Int32).toInt ≥ 0 by decide, show (0 : Int32).toInt ≤ 50 by decide, by
      unfold zWs zKeyN
      refine ⟨⟨e0, e1, e2, e3, e4, e5, e6, e8, ?_⟩, rfl, rfl, rfl, rfl, rfl, rfl, rfl, e53⟩
      show (T 13 13).toInt ≤ _
      omega⟩
    (by
      rintro j ⟨c1, c2, c3, C⟩ ⟨d1, d2, d3, D⟩ hj ⟨i1, i2, i3, i4⟩
      simp only at i1 i2 i3 i4
      subst i1
      rw [Nat.zero_add]
      have ej : (Int32.ofNat j).toNatClampNeg = j := zk_ix _ (by omega)
      have hL : zn 512 (T 88 (Int32.ofNat j).toNatClampNeg) := by
        rw [ej]
        have := hv j hj
        unfold zn at this ⊢
        omega
      obtain ⟨a, b, ha, hb, r⟩ := zw_path (x1 := q1) (x3 := S 0 11) (x4 := T 13 13) (x6 := Int32.ofNat j) (u := c3) (v := d3) (M := 1 + 60 * n) (by omega) hq e6 hL e51 e54 i2 i3 i4
      rw [ej] at ha hb
      rw [e0] at *
      have ea : k112_7_2_7 q1 (S 0 11) (T 13 13) j (c1, c2, c3, C) = (a.1, some (.inl a.2.1), a.2.2.1, a.2.2.2) := by rw [← ha]; rfl
      have eb : k234_25 q1 (T 13 13) j (c1, d2, d3, D) = (b.1, some (.inl b.2.1), b.2.2.1, b.2.2.2) := by rw [← hb]; rfl
      rw [ea, eb]
      exact r)
  obtain ⟨m1, m2, m3, m4⟩ := main
  refine ⟨m1, ?_⟩
  have kA : K112_7_2_7_S q1 (S 0 11) (S 2 0) 0 none none 0 S = (zfold (k112_7_2_7 q1 (S 0 11) (S 2 0)) 0 216 ((0 : Int32), (none : Option zV), (none : Option zV), S)).2.2.2 := rfl
  have kB : K234_25_S q1 0 (T 13 13) none none 0 T = (zfold (k234_25 q1 (T 13 13)) 0 216 ((0 : Int32), (none : Option zV), (none : Option zV), T)).2.2.2 := rfl
  rw [kA, kB]
  generalize zfold (k112_7_2_7 q1 (S 0 11) (S 2 0)) 0 216 ((0 : Int32), (none : Option zV), (none : Option zV), S) = X at *
  generalize zfold (k234_25 q1 (T 13 13)) 0 216 ((0 : Int32), (none : Option zV), (none : Option zV), T) = Y at *
  unfold zWs zKeyN at m4
  obtain ⟨⟨k0, k1, k2, k3, k4, k5, k6, k7, k8⟩, s51, s52, s54, t88, t89, t91, t13, s53⟩ := m4
  have kn := zk_nat (x := Y.1) m2
  constructor
  · unfold zKey
    refine ⟨k0, k1, k2, k3, k4, k5, k6, ?_, k7, ?_⟩
    · rw [t13]; unfold zn at e7 ⊢; omega
    · omega
  · unfold zSto
    refine ⟨by rw [s51, t88, e51], s53, by rw [s54, t91, e54], ?_, ?_, ?_, ?_⟩
    · intro i hi
      rw [t91] at hi
      rw [s52, t89]; exact e52 i hi
    · intro j hj
      rw [t88]
      have := hv j hj
      unfold zn at this ⊢
      omega
    · intro i; rw [t89]; exact hnum i
    · intro i; rw [t91]; exact hst i
theorem zyx10 {n : Nat} {S T : zS} (q1 : Int32) (hn : n < 512) (h : zR n S T) : ((G234 q1 T) 13 0) = (F331_0_148 q1 S) ∧ ((F331_0_148 q1 S) = 0 → ((G331_0_148 q1 S) 148 0) = (F234 q1 T)) ∧ zKey (n + 1) (G331_0_148 q1 S) (M10 q1 T) ∧ zSto (n + 1) (G331_0_148 q1 S) (M10 q1 T) := by
  have hQ : ∀ v : Int32, zQ n S (z_up T 13 0 v) := fun v => zQ_thr (zR_Q h) v
  have n1 : ¬ (1 : Int32) = 0 := by decide
  have n2 : ¬ (2 : Int32) = 0 := by decide
  unfold M10 G331_0_148 F331_0_148 G234 F234
  rw [q_1_6 h]
  by_cases c1 : (¬ q1 < 1) ∧ ¬ 50 < q1
  case neg =>
    simp only [if_neg c1, if_neg n1]
    exact ⟨by rw [zup2, if_pos rfl, if_pos rfl], fun e => absurd e n1, zKey_up (zQ_Key (hQ 1)), zSto_up (zQ_Sto (hQ 1))⟩
  by_cases c3 : T 13 2 = 0
  · simp only [if_pos c1, if_pos c3, if_neg (fun e : ¬ T 13 2 = 0 => e c3), if_neg n2]
    exact ⟨by rw [zup2, if_pos rfl, if_pos rfl], fun e => absurd e n2, zKey_up (zQ_Key (hQ 2)), zSto_up (zQ_Sto (hQ 2))⟩
  simp only [if_pos c1, if_neg c3, if_pos c3, reduceIte]
  have hq : q1.toInt ≤ 50 := by
    have := c1.2
    rw [zk_lt, show (50 : Int32).toInt = 50 from rfl] at this
    omega
  have e13 : (z_up T 13 0 0) 13 13 = T 13 13 := by rw [zup2, if_pos rfl, if_neg (by decide)]
  obtain ⟨r1, r2, r3⟩ := zrwp (hQ 0) hn q1 hq
  rw [e13] at r1 r2 r3
  refine ⟨?_, fun _ => ?_, ?_, ?_⟩
  · rw [(p_K234_25_S _ _ _ _ _ _ _).2 13 0 rfl rfl, zup2, if_pos rfl, if_pos rfl]
  · rw [zup2, if_pos rfl, if_pos rfl]; exact r1
  · exact zKey_kc rfl (zkp_up (l := [148]) (fl := []) zkp_S rfl rfl) r2
  · exact zSto_kc rfl (zkp_up (l := [148]) (fl := []) zkp_S rfl rfl) r3
theorem zyr10 {n : Nat} {S T : zS} (q1 : Int32) (hn : n < 512) (h : zR n S T) : ((G234 q1 T) 13 0) = (F331_0_148 q1 S) ∧ ((F331_0_148 q1 S) = 0 → ((G331_0_148 q1 S) 148 0) = (F234 q1 T)) := ⟨(zyx10 q1 hn h).1, (zyx10 q1 hn h).2.1⟩
theorem zyt10_Key {n : Nat} {S T : zS} (q1 : Int32) (hn : n < 512) (h : zR n S T) : zKey (n + 1) (G331_0_148 q1 S) (M10 q1 T) := (zyx10 q1 hn h).2.2.1
theorem zyt10_Sto {n : Nat} {S T : zS} (q1 : Int32) (hn : n < 512) (h : zR n S T) : zSto (n + 1) (G331_0_148 q1 S) (M10 q1 T) := (zyx10 q1 hn h).2.2.2
