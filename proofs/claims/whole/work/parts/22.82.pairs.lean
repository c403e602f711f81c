/-! what a request does ahead of its own part, and behind it (wip/whole/gen/gen82.py) -/
def zQ (n : Nat) (S T : zS) : Prop := zSeal S T ∧ zKey n S T ∧ zEng S T ∧ zRul S T ∧ zPpl S T ∧ zTok S T ∧ zLea S T ∧ zLT S T ∧ zSto n S T ∧ zFar n S T ∧ zLog n S T ∧ zWra S T ∧ zCas S T ∧ zCer S T ∧ zSin S T
theorem zQ_Seal {n : Nat} {S T : zS} (h : zQ n S T) : zSeal S T := by unfold zQ at h; exact h.1
theorem zQ_Key {n : Nat} {S T : zS} (h : zQ n S T) : zKey n S T := by unfold zQ at h; exact h.2.1
theorem zQ_Eng {n : Nat} {S T : zS} (h : zQ n S T) : zEng S T := by unfold zQ at h; exact h.2.2.1
theorem zQ_Rul {n : Nat} {S T : zS} (h : zQ n S T) : zRul S T := by unfold zQ at h; exact h.2.2.2.1
theorem zQ_Ppl {n : Nat} {S T : zS} (h : zQ n S T) : zPpl S T := by unfold zQ at h; exact h.2.2.2.2.1
theorem zQ_Tok {n : Nat} {S T : zS} (h : zQ n S T) : zTok S T := by unfold zQ at h; exact h.2.2.2.2.2.1
theorem zQ_Lea {n : Nat} {S T : zS} (h : zQ n S T) : zLea S T := by unfold zQ at h; exact h.2.2.2.2.2.2.1
theorem zQ_LT {n : Nat} {S T : zS} (h : zQ n S T) : zLT S T := by unfold zQ at h; exact h.2.2.2.2.2.2.2.1
theorem zQ_Sto {n : Nat} {S T : zS} (h : zQ n S T) : zSto n S T := by unfold zQ at h; exact h.2.2.2.2.2.2.2.2.1
theorem zQ_Far {n : Nat} {S T : zS} (h : zQ n S T) : zFar n S T := by unfold zQ at h; exact h.2.2.2.2.2.2.2.2.2.1
theorem zQ_Log {n : Nat} {S T : zS} (h : zQ n S T) : zLog n S T := by unfold zQ at h; exact h.2.2.2.2.2.2.2.2.2.2.1
theorem zQ_Wra {n : Nat} {S T : zS} (h : zQ n S T) : zWra S T := by unfold zQ at h; exact h.2.2.2.2.2.2.2.2.2.2.2.1
theorem zQ_Cas {n : Nat} {S T : zS} (h : zQ n S T) : zCas S T := by unfold zQ at h; exact h.2.2.2.2.2.2.2.2.2.2.2.2.1
theorem zQ_Cer {n : Nat} {S T : zS} (h : zQ n S T) : zCer S T := by unfold zQ at h; exact h.2.2.2.2.2.2.2.2.2.2.2.2.2.1
theorem zQ_Sin {n : Nat} {S T : zS} (h : zQ n S T) : zSin S T := by unfold zQ at h; exact h.2.2.2.2.2.2.2.2.2.2.2.2.2.2
theorem zR_Q {n : Nat} {S T : zS} (h : zR n S T) : zQ n S T := ⟨zR_Seal h, zR_Key h, zR_Eng h, zR_Rul h, zR_Ppl h, zR_Tok h, zR_Lea h, zR_LT h, zR_Sto h, zR_Far h, zR_Log h, zR_Wra h, zR_Cas h, zR_Cer h, zR_Sin h⟩
theorem zQ_R {n : Nat} {S T : zS} (h : zQ n S T) (hu : zUse S T) : zR n S T := ⟨zQ_Seal h, zQ_Key h, zQ_Eng h, zQ_Rul h, zQ_Ppl h, zQ_Tok h, zQ_Lea h, zQ_LT h, hu, zQ_Sto h, zQ_Far h, zQ_Log h, zQ_Wra h, zQ_Cas h, zQ_Cer h, zQ_Sin h⟩
theorem zQ_thr {n : Nat} {S T : zS} (h : zQ n S T) (v : Int32) : zQ n S (z_up T 13 0 v) := ⟨(zSeal_km rfl (zkp_upf (l := [13]) (fl := [13000]) zkp_S rfl rfl) (zQ_Seal h)), (zKey_km rfl (zkp_upf (l := [13]) (fl := [13000]) zkp_S rfl rfl) (zQ_Key h)), (zEng_km rfl (zkp_upf (l := [13]) (fl := [13000]) zkp_S rfl rfl) (zQ_Eng h)), (zRul_km rfl (zkp_upf (l := [13]) (fl := [13000]) zkp_S rfl rfl) (zQ_Rul h)), (zPpl_km rfl (zkp_upf (l := [13]) (fl := [13000]) zkp_S rfl rfl) (zQ_Ppl h)), (zTok_km rfl (zkp_upf (l := [13]) (fl := [13000]) zkp_S rfl rfl) (zQ_Tok h)), (zLea_km rfl (zkp_upf (l := [13]) (fl := [13000]) zkp_S rfl rfl) (zQ_Lea h)), (zLT_km rfl (zkp_upf (l := [13]) (fl := [13000]) zkp_S rfl rfl) (zQ_LT h)), (zSto_km rfl (zkp_upf (l := [13]) (fl := [13000]) zkp_S rfl rfl) (zQ_Sto h)), (zFar_km rfl (zkp_upf (l := [13]) (fl := [13000]) zkp_S rfl rfl) (zQ_Far h)), (zLog_km rfl (zkp_upf (l := [13]) (fl := [13000]) zkp_S rfl rfl) (zQ_Log h)), (zWra_km rfl (zkp_upf (l := [13]) (fl := [13000]) zkp_S rfl rfl) (zQ_Wra h)), (zCas_km rfl (zkp_upf (l := [13]) (fl := [13000]) zkp_S rfl rfl) (zQ_Cas h)), (zCer_km rfl (zkp_upf (l := [13]) (fl := [13000]) zkp_S rfl rfl) (zQ_Cer h)), (zSin_km rfl (zkp_upf (l := [13]) (fl := [13000]) zkp_S rfl rfl) (zQ_Sin h))⟩
theorem zQ_out {n : Nat} {S T : zS} (h : zQ n S T) (v : Int32) : zQ n (z_up S 148 0 v) T := ⟨(zSeal_kc rfl (zkp_up (l := [148]) (fl := []) zkp_S rfl rfl) (zQ_Seal h)), (zKey_kc rfl (zkp_up (l := [148]) (fl := []) zkp_S rfl rfl) (zQ_Key h)), (zEng_kc rfl (zkp_up (l := [148]) (fl := []) zkp_S rfl rfl) (zQ_Eng h)), (zRul_kc rfl (zkp_up (l := [148]) (fl := []) zkp_S rfl rfl) (zQ_Rul h)), (zPpl_kc rfl (zkp_up (l := [148]) (fl := []) zkp_S rfl rfl) (zQ_Ppl h)), (zTok_kc rfl (zkp_up (l := [148]) (fl := []) zkp_S rfl rfl) (zQ_Tok h)), (zLea_kc rfl (zkp_up (l := [148]) (fl := []) zkp_S rfl rfl) (zQ_Lea h)), (zLT_kc rfl (zkp_up (l := [148]) (fl := []) zkp_S rfl rfl) (zQ_LT h)), (zSto_kc rfl (zkp_up (l := [148]) (fl := []) zkp_S rfl rfl) (zQ_Sto h)), (zFar_kc rfl (zkp_up (l := [148]) (fl := []) zkp_S rfl rfl) (zQ_Far h)), (zLog_kc rfl (zkp_up (l := [148]) (fl := []) zkp_S rfl rfl) (zQ_Log h)), (zWra_kc rfl (zkp_up (l := [148]) (fl := []) zkp_S rfl rfl) (zQ_Wra h)), (zCas_kc rfl (zkp_up (l := [148]) (fl := []) zkp_S rfl rfl) (zQ_Cas h)), (zCer_kc rfl (zkp_up (l := [148]) (fl := []) zkp_S rfl rfl) (zQ_Cer h)), (zSin_kc rfl (zkp_up (l := [148]) (fl := []) zkp_S rfl rfl) (zQ_Sin h))⟩
theorem zQ_up {n : Nat} {S T : zS} (h : zQ n S T) : zQ (n + 1) S T := ⟨(zQ_Seal h), (zKey_up (zQ_Key h)), (zQ_Eng h), (zQ_Rul h), (zQ_Ppl h), (zQ_Tok h), (zQ_Lea h), (zQ_LT h), (zSto_up (zQ_Sto h)), (zFar_up (zQ_Far h)), (zLog_up (zQ_Log h)), (zQ_Wra h), (zQ_Cas h), (zQ_Cer h), (zQ_Sin h)⟩
theorem zU_thr {S T : zS} (h : zUse S T) (v : Int32) : zUse S (z_up T 13 0 v) := zUse_km rfl (zkp_upf (l := [13]) (fl := [13000]) zkp_S rfl rfl) h
theorem zU_out {S T : zS} (h : zUse S T) (v : Int32) : zUse (z_up S 148 0 v) T := zUse_kc rfl (zkp_up (l := [148]) (fl := []) zkp_S rfl rfl) h
theorem zfold_sim {α β : Type} {f : Nat → α → α} {g : Nat → β → β} {i : Nat} {I : Nat → α → β → Prop} {a : α} {b : β} : ∀ {n : Nat}, I 0 a b → (∀ j c d, j < n → I j c d → I (j + 1) (f (i + j) c) (g (i + j) d)) → I n (zfold f i n a) (zfold g i n b)
  | 0, h0, _ => h0
  | n + 1, h0, hs => hs n _ _ (Nat.lt_succ_self n) (zfold_sim h0 (fun j c d hj => hs j c d (Nat.lt_succ_of_lt hj)))
theorem zup_id (S : zS) (k i : Nat) (v : Int32) (h : S k i = v) : z_up S k i v = S := by
  funext a b
  rw [zup2]
  split
  · rename_i e; subst e
    split
    · rename_i e2; subst e2; exact h.symm
    · rfl
  · rfl
/-- a lease's end: its row but for the one in hand -/
def zLeX (j : Nat) (S T : zS) : Prop := S 6 0 = T 13 57 ∧ S 41 = T 120 ∧ S 42 = T 121 ∧ S 43 = T 122 ∧ S 44 = T 123 ∧ S 45 = T 124 ∧ S 46 = T 125 ∧ S 47 = T 126 ∧ S 48 = T 127 ∧ S 49 = T 128 ∧ S 50 = T 129 ∧ zn 40 (T 13 57) ∧ zA 40 40 (T 120) ∧ zA 40 216 (T 121) ∧ zA 40 3 (T 122) ∧ (∀ i, ¬ i = j → T 125 i = 0 → T 126 i = 0) ∧ (∀ i, ¬ i = j → T 125 i = 1 → T 126 i = 1 ∨ T 126 i = 2) ∧ (∀ i, i < 3 → zn 2 (T 127 i)) ∧ (∀ i, (T 13 57).toNatClampNeg ≤ i → T 126 i = 0) ∧ (T 126 j = 0 ∨ T 126 j = 1 ∨ T 126 j = 2) ∧ j < (T 13 57).toNatClampNeg
theorem zLeX_t {j : Nat} {S T : zS} (h : zLeX j S T) : zLea (G60 (Int32.ofNat j) S) (G269 (Int32.ofNat j) T) := by
  unfold zLeX at h
  obtain ⟨h0, h1, h2, h3, h4, h5, h6, h7, h8, h9, h10, h11, h12, h13, h14, h15, h16, h17, h18, h19, h20⟩ := h
  have hj : j < 40 := by have := zn_cl h11; omega
  have hix := zk_ix j (by omega)
  have e3 : (if ((3 : Int32) ≤ T 126 j + 1) then (3 : Int32) else 1) = (if (T 126 j + 1 = 3) then (3 : Int32) else 1) := by
    rcases h19 with e | e | e <;> rw [e] <;> decide
  have e4 : ∀ x : Int32, x = (if (T 126 j + 1 = 3) then (3 : Int32) else 1) → x = 0 → False := by
    intro x e1 e2
    rw [e2] at e1
    revert e1
    split <;> decide
  have e5 : (if (T 126 j + 1 = 3) then (3 : Int32) else 1) = 1 → T 126 j + 1 = 1 ∨ T 126 j + 1 = 2 := by
    rcases h19 with e | e | e <;> rw [e] <;> decide
  unfold zLea G60 G269
  rw [hix, h8, h3, h7, h9, e3]
  by_cases hp : T 127 (T 122 j).toNatClampNeg = 1
  · rw [if_pos hp, if_pos hp]
    simp only [zup2, zup1, h0, h1, h2, h3, h4, h5, h6, h7, h8, h9, h10, not_false_eq_true, not_true_eq_false, Nat.reduceEqDiff, reduceIte, true_and, and_true, ite_true, ite_false, upd_r]
    refine ⟨h11, h12, h13, h14, ?_, ?_, h17, ?_⟩
    · intro i
      by_cases hi : i = j
      · rw [if_pos hi, if_pos hi]; intro e; exact (e4 _ rfl e).elim
      · rw [if_neg hi, if_neg hi]; exact h15 i hi
    · intro i
      by_cases hi : i = j
      · rw [if_pos hi, if_pos hi]; exact e5
      · rw [if_neg hi, if_neg hi]; exact h16 i hi
    · intro i hi2
      by_cases hi : i = j
      · omega
      · rw [if_neg hi]; exact h18 i hi2
  · rw [if_neg hp, if_neg hp]
    simp only [zup2, zup1, h0, h1, h2, h3, h4, h5, h6, h7, h8, h9, h10, not_false_eq_true, not_true_eq_false, Nat.reduceEqDiff, reduceIte, true_and, and_true, ite_true, ite_false, upd_r]
    refine ⟨h11, h12, h13, h14, ?_, ?_, h17, ?_⟩
    · intro i
      by_cases hi : i = j
      · rw [if_pos hi, if_pos hi]; intro e; exact absurd e (by decide)
      · rw [if_neg hi, if_neg hi]; exact h15 i hi
    · intro i
      by_cases hi : i = j
      · rw [if_pos hi, if_pos hi]; intro e; exact absurd e (by decide)
      · rw [if_neg hi, if_neg hi]; exact h16 i hi
    · intro i hi2
      by_cases hi : i = j
      · omega
      · rw [if_neg hi]; exact h18 i hi2
theorem zLeX_end {j : Nat} {S T : zS} (h : zLea S T) (hj : j < (T 13 57).toNatClampNeg) (h0 : T 125 j = 0) (v : Int32) : zLeX j (z_up S 44 j v) (z_up (z_up T 123 j v) 126 j 0) := by
  unfold zLea at h
  obtain ⟨k0, k1, k2, k3, k4, k5, k6, k7, k8, k9, k10, k11, k12, k13, k14, k15, k16, k17, k18⟩ := h
  have hu : upd (T 126) j 0 = T 126 := zupd_s _ _ _ (k15 j h0)
  unfold zLeX
  simp only [zup2, zup1, k0, k1, k2, k3, k4, k5, k6, k7, k8, k9, k10, hu, not_false_eq_true, not_true_eq_false, Nat.reduceEqDiff, reduceIte, true_and, and_true, ite_true, ite_false]
  refine ⟨k11, k12, k13, k14, ?_, ?_, k17, ?_, Or.inl trivial, hj⟩
  · intro i hi e
    rw [if_neg hi]; exact k15 i e
  · intro i hi e
    rw [if_neg hi]; exact k16 i e
  · intro i hi
    split
    · rfl
    · exact k18 i hi
theorem zLeX_ag {j : Nat} {S T : zS} (h : zLea S T) (hj : j < (T 13 57).toNatClampNeg) (h0 : T 125 j = 1) : zLeX j S T := by
  unfold zLea at h
  obtain ⟨k0, k1, k2, k3, k4, k5, k6, k7, k8, k9, k10, k11, k12, k13, k14, k15, k16, k17, k18⟩ := h
  exact ⟨k0, k1, k2, k3, k4, k5, k6, k7, k8, k9, k10, k11, k12, k13, k14, fun i _ => k15 i, fun i _ => k16 i, k17, k18, Or.inr (k16 j h0), hj⟩
/-- what a lease's end leaves: the state, never LIVE; all others -/
theorem z269_s (j : Nat) (hj : j < 40) (T : zS) : ¬ (G269 (Int32.ofNat j) T) 125 j = 0 ∧ (∀ i, ¬ i = j → (G269 (Int32.ofNat j) T) 125 i = T 125 i) ∧ (∀ i, ¬ i = j → (G269 (Int32.ofNat j) T) 123 i = T 123 i) := by
  unfold G269
  rw [zk_ix j (by omega)]
  by_cases hp : T 127 (T 122 j).toNatClampNeg = 1
  · rw [if_pos hp]
    simp only [zup2, Nat.reduceEqDiff, reduceIte, ite_true, ite_false]
    refine ⟨?_, fun i hi => by rw [if_neg hi], fun i hi => trivial⟩
    split <;> decide
  · rw [if_neg hp]
    simp only [zup2, Nat.reduceEqDiff, reduceIte, ite_true, ite_false]
    exact ⟨by decide, fun i hi => by rw [if_neg hi], fun i hi => trivial⟩
theorem z60_k (a : Int32) (S : zS) : (∀ c, ¬ c = 46 → ¬ c = 47 → ¬ c = 49 → (G60 a S) c = S c) := by
  intro c h1 h2 h3
  unfold G60
  split <;> simp only [zup1, h1, h2, h3, if_false]
theorem z269_k (a : Int32) (S : zS) : (∀ c, ¬ c = 125 → ¬ c = 126 → ¬ c = 128 → (G269 a S) c = S c) := by
  intro c h1 h2 h3
  unfold G269
  split <;> simp only [zup1, h1, h2, h3, if_false]
/-- the ends of the leases of dead tokens -/
theorem zdl {S T : zS} (h : zLea S T) (h40 : S 40 = T 119) (x1 x2 x3 : Int32) (hx : ¬ x1 ≤ 0) (h1 : T 13 1 = x2) : zLea (K54_6_5_2_S x2 0 S) (K264_58_S x3 x1 0 T) ∧ (∀ i, i < (T 13 57).toNatClampNeg → (K264_58_S x3 x1 0 T) 125 i = 0 → T 119 (T 120 i).toNatClampNeg = 0 ∧ T 125 i = 0) := by
  unfold K54_6_5_2_S K54_6_5_2 K264_58_S K264_58
  rw [if_neg hx, h.1]
  have key := zfold_sim (f := k54_6_5_2 x2) (g := k264_58 x3 x1) (i := 0) (n := (T 13 57).toNatClampNeg - 0) (a := S) (b := T) (I := fun j c d => zLea c d ∧ c 40 = T 119 ∧ d 119 = T 119 ∧ d 13 = T 13 ∧ d 120 = T 120 ∧ (∀ i, j ≤ i → d 125 i = T 125 i) ∧ (∀ i, i < j → d 125 i = 0 → T 119 (T 120 i).toNatClampNeg = 0 ∧ T 125 i = 0)) ⟨h, h40, rfl, rfl, rfl, fun _ _ => rfl, fun i hi => absurd hi (by omega)⟩ (fun j c d hj hI => by
    obtain ⟨hL, e40, e119, e13, e120, eg, el⟩ := hI
    have hj' : j < (d 13 57).toNatClampNeg := by rw [e13]; omega
    have hj4 : j < 40 := by have := zn_cl hL.2.2.2.2.2.2.2.2.2.2.2.1; omega
    have s46 : c 46 = d 125 := hL.2.2.2.2.2.2.1
    have s41 : c 41 = d 120 := hL.2.1
    rw [Nat.zero_add]
    unfold k54_6_5_2 k264_58
    rw [s46, s41, e40, e119]
    by_cases c0 : d 125 j = 0
    · rw [if_pos c0, if_pos c0]
      by_cases c1 : T 119 (d 120 j).toNatClampNeg = 0
      · rw [if_pos c1, if_pos c1]
        refine ⟨hL, e40, e119, e13, e120, fun i hi => eg i (by omega), fun i hi e => ?_⟩
        by_cases hij : i = j
        · subst hij
          rw [e120] at c1
          exact ⟨c1, (eg i (Nat.le_refl _)).symm.trans e⟩
        · exact el i (by omega) e
      · rw [if_neg c1, if_neg c1, e13, h1]
        have hz := zLeX_t (zLeX_end hL hj' c0 x2)
        obtain ⟨z1, z2, z3⟩ := z269_s j hj4 (z_up (z_up d 123 j x2) 126 j 0)
        refine ⟨hz, ?_, ?_, ?_, ?_, fun i hi => ?_, fun i hi e => ?_⟩
        · rw [z60_k _ _ 40 (by decide) (by decide) (by decide)]; exact (zupc rfl).trans e40
        · rw [z269_k _ _ 119 (by decide) (by decide) (by decide)]; exact (zupc rfl).trans ((zupc rfl).trans e119)
        · rw [z269_k _ _ 13 (by decide) (by decide) (by decide)]; exact (zupc rfl).trans ((zupc rfl).trans e13)
        · rw [z269_k _ _ 120 (by decide) (by decide) (by decide)]; exact (zupc rfl).trans ((zupc rfl).trans e120)
        · rw [z2 i (by omega)]; exact (zupci rfl).trans ((zupci rfl).trans (eg i (by omega)))
        · by_cases hij : i = j
          · subst hij; exact absurd e z1
          · rw [z2 i hij] at e
            exact el i (by omega) (((zupci rfl).trans (zupci rfl)).symm.trans e)
    · rw [if_neg c0, if_neg c0]
      refine ⟨hL, e40, e119, e13, e120, fun i hi => eg i (by omega), fun i hi e => ?_⟩
      by_cases hij : i = j
      · subst hij; exact absurd e c0
      · exact el i (by omega) e)
  refine ⟨key.1, fun i hi e => key.2.2.2.2.2.2 i (by omega) e⟩
theorem zdl_id {S T : zS} (h : zLea S T) (hT : zTok S T) (hL : zLT S T) (x : Int32) : K54_6_5_2_S x 0 S = S := by
  unfold K54_6_5_2_S K54_6_5_2
  refine zfold_inv (I := fun _ b => b = S) rfl (fun j b hj hb => ?_)
  rw [hb, Nat.zero_add]
  unfold k54_6_5_2
  have s46 : S 46 = T 125 := h.2.2.2.2.2.2.1
  have s41 : S 41 = T 120 := h.2.1
  have s6 : S 6 0 = T 13 57 := h.1
  have s40 : S 40 = T 119 := hT.2.2.2.2.2.2.2.2.2.1
  rw [s6] at hj
  rw [s46, s41, s40]
  by_cases c0 : T 125 j = 0
  · rw [if_pos c0, if_pos (hL j (by omega) c0).1]
  · rw [if_neg c0]
/-- deaths of tokens: the token's own mark is set, then all behind it are looked at -/
theorem zkill {S T : zS} (h : zTok S T) (a : Int32) (ha : 0 ≤ a.toInt) (hlt : a.toInt < (T 13 45).toInt) : zTok (K129_18_S a 1 (a + 1).toNatClampNeg (z_up S 40 a.toNatClampNeg 1)) (K264_18_S a 1 (a + 1).toNatClampNeg (z_up T 119 a.toNatClampNeg 1)) ∧ K129_18_c2 a 1 (a + 1).toNatClampNeg (z_up S 40 a.toNatClampNeg 1) = K264_18_c2 a 1 (a + 1).toNatClampNeg (z_up T 119 a.toNatClampNeg 1) ∧ (∀ i, ¬ T 119 i = 0 → ¬ (K264_18_S a 1 (a + 1).toNatClampNeg (z_up T 119 a.toNatClampNeg 1)) 119 i = 0) ∧ ¬ (K264_18_S a 1 (a + 1).toNatClampNeg (z_up T 119 a.toNatClampNeg 1)) 119 a.toNatClampNeg = 0 ∧ ¬ K264_18_c2 a 1 (a + 1).toNatClampNeg (z_up T 119 a.toNatClampNeg 1) ≤ 0 := by
  have hn0 := h.2.2.2.2.2.2.2.2.2.2.1
  have hcl := zn_cl hn0
  have hna := zk_nat ha
  have hnt := zk_nat hn0.1
  have h1 : zTok (z_up S 40 a.toNatClampNeg 1) (z_up T 119 a.toNatClampNeg 1) := by
    unfold zTok at h ⊢
    obtain ⟨k0, k1, k2, k3, k4, k5, k6, k7, k8, k9, k10, k11, k12, k13, k14, k15, k16, k17, k18, k19⟩ := h
    simp only [zup2, zup1, k0, k1, k2, k3, k4, k5, k6, k7, k8, k9, not_false_eq_true, not_true_eq_false, Nat.reduceEqDiff, reduceIte, true_and, and_true, ite_true, ite_false]
    refine ⟨k10, k11, k12, k13, k14, ?_, k16, ?_, k18, k19⟩
    · intro j hj
      rw [if_neg (by omega)]; exact k15 j hj
    · intro j
      split
      · exact Or.inr rfl
      · exact k17 j
  unfold K129_18_S K129_18_c2 K129_18 K264_18_S K264_18_c2 K264_18
  rw [if_neg (show ¬ (1 : Int32) ≤ 0 by decide), show (z_up S 40 a.toNatClampNeg 1) 5 0 = T 13 45 from (zupci rfl).trans h.1, show (z_up T 119 a.toNatClampNeg 1) 13 45 = T 13 45 from zupci rfl]
  have key := zfold_sim (f := k129_18 a) (g := k264_18 a) (i := (a + 1).toNatClampNeg) (n := (T 13 45).toNatClampNeg - (a + 1).toNatClampNeg) (a := ((1 : Int32), z_up S 40 a.toNatClampNeg 1)) (b := ((1 : Int32), z_up T 119 a.toNatClampNeg 1)) (I := fun j c d => c.1 = d.1 ∧ zTok c.2 d.2 ∧ d.2 13 45 = T 13 45 ∧ (∀ i, ¬ (z_up T 119 a.toNatClampNeg 1) 119 i = 0 → ¬ d.2 119 i = 0) ∧ zn (1 + j) d.1 ∧ 1 ≤ d.1.toInt) ⟨rfl, h1, (show (z_up T 119 a.toNatClampNeg 1) 13 45 = T 13 45 from zupci rfl), fun _ hh => hh, (show zn (1 + 0) (1 : Int32) from by unfold zn; decide), (show 1 ≤ (1 : Int32).toInt from by decide)⟩ (fun j c d hj hI => by
    obtain ⟨e1, hT, e13, em, ez, e0⟩ := hI
    generalize hJ : (a + 1).toNatClampNeg + j = J
    have hJ2 : J < (T 13 45).toNatClampNeg := by omega
    have hJ4 : J < 40 := by omega
    have hT' := hT
    unfold zTok at hT'
    obtain ⟨k0, k1, k2, k3, k4, k5, k6, k7, k8, k9, k10, k11, k12, k13, k14, k15, k16, k17, k18, k19⟩ := hT'
    have hpar := k13 J (by rw [e13]; exact hJ2)
    have hF : F130 (Int32.ofNat J) c.2 = zb ((d.2 118 J = 0) ∧ (((¬ (d.2 110 J) < 0) ∧ (¬ (d.2 13 45) ≤ (d.2 110 J))) ∧ (¬ d.2 119 (d.2 110 J).toNatClampNeg = 0))) := by
      unfold F130
      rw [zk_ix J (by omega), k1, k8, k9, k0]
    have hpos : zn (1 + (j + 1)) (d.1 + 1) ∧ 1 ≤ (d.1 + 1).toInt := by
      have := zn_succ ez (by omega)
      refine ⟨by rw [show 1 + (j + 1) = 1 + j + 1 from rfl]; exact this, ?_⟩
      unfold zn at ez
      rw [zk_tadd (by rw [zk_1]; omega) (by rw [zk_1]; omega), zk_1]; omega
    have hsam : zn (1 + (j + 1)) d.1 := zn_up ez
    unfold k129_18 k264_18
    dsimp only
    rw [hF, k9, e1]
    by_cases c0 : d.2 119 J = 0
    · rw [if_pos c0, if_pos c0, if_pos c0, if_pos c0]
      by_cases c1 : d.2 110 J = -1
      · have hz : (zb ((d.2 118 J = 0) ∧ (((¬ (d.2 110 J) < 0) ∧ (¬ (d.2 13 45) ≤ (d.2 110 J))) ∧ (¬ d.2 119 (d.2 110 J).toNatClampNeg = 0)))) = 0 := by
          rw [zb_0]; rintro ⟨-, ⟨q, -⟩, -⟩; rw [c1] at q; exact q (by decide)
        rw [if_pos hz, if_pos hz, if_pos c1, if_pos c1]
        exact ⟨rfl, hT, e13, em, hsam, e0⟩
      · have hr := hpar.resolve_left c1
        have g1 : ¬ (d.2 110 J) < 0 := by rw [zk_lt, zlt_0]; omega
        have g2 : ¬ (d.2 13 45) ≤ (d.2 110 J) := by rw [zk_le]; omega
        rw [if_neg c1, if_neg c1]
        by_cases c2 : d.2 119 (d.2 110 J).toNatClampNeg = 0
        · have hz : (zb ((d.2 118 J = 0) ∧ (((¬ (d.2 110 J) < 0) ∧ (¬ (d.2 13 45) ≤ (d.2 110 J))) ∧ (¬ d.2 119 (d.2 110 J).toNatClampNeg = 0)))) = 0 := by
            rw [zb_0]; rintro ⟨-, -, q⟩; exact q c2
          rw [if_pos hz, if_pos hz, if_pos c2, if_pos c2]
          exact ⟨rfl, hT, e13, em, hsam, e0⟩
        · rw [if_neg c2, if_neg c2]
          by_cases c3 : d.2 118 J = 0
          · have hz : ¬ (zb ((d.2 118 J = 0) ∧ (((¬ (d.2 110 J) < 0) ∧ (¬ (d.2 13 45) ≤ (d.2 110 J))) ∧ (¬ d.2 119 (d.2 110 J).toNatClampNeg = 0)))) = 0 := by
              rw [zb_0]; exact fun q => q ⟨c3, ⟨g1, g2⟩, c2⟩
            rw [if_neg hz, if_neg hz, if_pos c3, if_pos c3]
            refine ⟨rfl, ?_, (zupci rfl).trans e13, ?_, hpos.1, hpos.2⟩
            · unfold zTok
              simp only [zup2, zup1, k0, k1, k2, k3, k4, k5, k6, k7, k8, k9, not_false_eq_true, not_true_eq_false, Nat.reduceEqDiff, reduceIte, true_and, and_true, ite_true, ite_false]
              refine ⟨k10, k11, k12, k13, k14, ?_, k16, ?_, k18, k19⟩
              · intro i hi
                rw [if_neg (by rw [e13] at hi; omega)]; exact k15 i hi
              · intro i
                split
                · exact Or.inr rfl
                · exact k17 i
            · intro i hi
              show ¬ (z_up d.2 119 J 1) 119 i = 0
              rw [zup2, if_pos rfl]
              split
              · decide
              · exact em i hi
          · have hz : (zb ((d.2 118 J = 0) ∧ (((¬ (d.2 110 J) < 0) ∧ (¬ (d.2 13 45) ≤ (d.2 110 J))) ∧ (¬ d.2 119 (d.2 110 J).toNatClampNeg = 0)))) = 0 := by
              rw [zb_0]; rintro ⟨q, -, -⟩; exact c3 q
            rw [if_pos hz, if_pos hz, if_neg c3, if_neg c3]
            exact ⟨rfl, hT, e13, em, hsam, e0⟩
    · rw [if_neg c0, if_neg c0, if_neg c0, if_neg c0]
      exact ⟨rfl, hT, e13, em, hsam, e0⟩)
  obtain ⟨r1, r2, r3, r4, r5, r6⟩ := key
  have hup : ∀ i, (z_up T 119 a.toNatClampNeg 1) 119 i = if i = a.toNatClampNeg then 1 else T 119 i := fun i => by rw [zup2, if_pos rfl]
  refine ⟨r2, r1, fun i hi => r4 i ?_, r4 _ ?_, ?_⟩
  · rw [hup]; split
    · decide
    · exact hi
  · rw [hup, if_pos rfl]; decide
  · rw [zk_le, zlt_0]; omega
/-- a token whose uses may be at 0 although it lives -/
def zUm (a : Int32) (T : zS) : Prop := ∀ j, j < (T 13 45).toNatClampNeg → T 119 j = 0 → T 117 j = 0 → (j : Int) = a.toInt
theorem zUm_of {S T : zS} (h : zUse S T) (a : Int32) : zUm a T := fun j hj h1 h2 => absurd h2 (h j hj h1)
theorem zdie {n : Nat} {S T : zS} (h : zQ n S T) (a : Int32) (ha : 0 ≤ a.toInt) (hlt : a.toInt < (T 13 45).toInt) : zQ n (G200 a S) (G264 a T) ∧ (if ((S 40 a.toNatClampNeg) = 0) then ((K129_18_c2 a 1 (a + 1).toNatClampNeg (z_up S 40 a.toNatClampNeg 1)) : Int32) else 0) = K264_18_c2 a (zb ((T 119 a.toNatClampNeg) = 0)) (a + 1).toNatClampNeg (z_up T 119 a.toNatClampNeg 1) ∧ (∀ b : Int32, zUm b T → (b = a ∨ zUse S T) → zUse (G200 a S) (G264 a T)) := by
  have hT := zQ_Tok h
  have s40 : S 40 = T 119 := hT.2.2.2.2.2.2.2.2.2.1
  have hnt := zk_nat (zQ_Tok h).2.2.2.2.2.2.2.2.2.2.1.1
  have hna := zk_nat ha
  have hkey := zQ_Key h
  by_cases c0 : T 119 a.toNatClampNeg = 0
  · obtain ⟨z1, z2, z3, z4, z5⟩ := zkill hT a ha hlt
    have eS : G200 a S = K54_6_5_2_S (T 13 1) 0 (K129_18_S a 1 (a + 1).toNatClampNeg (z_up S 40 a.toNatClampNeg 1)) := by
      unfold G200
      rw [s40, if_pos c0]
      have e : (K129_18_S a 1 (a + 1).toNatClampNeg (z_up S 40 a.toNatClampNeg 1)) 0 11 = T 13 1 := ((p_K129_18_S a 1 (a + 1).toNatClampNeg (z_up S 40 a.toNatClampNeg 1)).2 0 11 rfl rfl).trans ((zupci rfl).trans hkey.2.2.2.2.2.2.1)
      rw [e]
    have eT : G264 a T = K264_58_S a (K264_18_c2 a 1 (a + 1).toNatClampNeg (z_up T 119 a.toNatClampNeg 1)) 0 (K264_18_S a 1 (a + 1).toNatClampNeg (z_up T 119 a.toNatClampNeg 1)) := by
      unfold G264
      rw [(show zb (T 119 a.toNatClampNeg = 0) = 1 from if_pos c0)]
    have hpS := p_K129_18_S a 1 (a + 1).toNatClampNeg (z_up S 40 a.toNatClampNeg 1)
    have hpT := p_K264_18_S a 1 (a + 1).toNatClampNeg (z_up T 119 a.toNatClampNeg 1)
    have hkS : zkp [40] [] S (K129_18_S a 1 (a + 1).toNatClampNeg (z_up S 40 a.toNatClampNeg 1)) := zkp_tr (zkp_up zkp_S rfl rfl) hpS rfl rfl
    have hkT : zkp [119] [] T (K264_18_S a 1 (a + 1).toNatClampNeg (z_up T 119 a.toNatClampNeg 1)) := zkp_tr (zkp_up zkp_S rfl rfl) hpT rfl rfl
    generalize K129_18_S a 1 (a + 1).toNatClampNeg (z_up S 40 a.toNatClampNeg 1) = S1 at *
    generalize K264_18_S a 1 (a + 1).toNatClampNeg (z_up T 119 a.toNatClampNeg 1) = T1 at *
    have hL1 : zLea S1 T1 := zLea_kc rfl hkS (zLea_km rfl hkT (zQ_Lea h))
    have t13 : ∀ i, T1 13 i = T 13 i := fun i => congrFun (hkT.1 13 rfl) i
    have t120 : T1 120 = T 120 := hkT.1 120 rfl
    have t125 : T1 125 = T 125 := hkT.1 125 rfl
    have t117 : T1 117 = T 117 := hkT.1 117 rfl
    have s41 : S1 40 = T1 119 := z1.2.2.2.2.2.2.2.2.2.1
    obtain ⟨w1, w2⟩ := zdl hL1 s41 _ (T 13 1) a z5 (t13 1)
    rw [eS, eT]
    have hkS2 := zkp_tr (l := [40, 44, 46, 47, 49]) (fl := []) (zkp_tr (zkp_S (S := S)) hkS rfl rfl) (p_K54_6_5_2_S (T 13 1) 0 S1) rfl rfl
    have hkT2 := zkp_tr (l := [119, 123, 125, 126, 128]) (fl := []) (zkp_tr (zkp_S (S := T)) hkT rfl rfl) (p_K264_58_S a (K264_18_c2 a 1 (a + 1).toNatClampNeg (z_up T 119 a.toNatClampNeg 1)) 0 T1) rfl rfl
    have hpT2 := p_K264_58_S a (K264_18_c2 a 1 (a + 1).toNatClampNeg (z_up T 119 a.toNatClampNeg 1)) 0 T1
    have hpS2 := p_K54_6_5_2_S (T 13 1) 0 S1
    generalize K54_6_5_2_S (T 13 1) 0 S1 = S2 at *
    generalize K264_58_S a (K264_18_c2 a 1 (a + 1).toNatClampNeg (z_up T 119 a.toNatClampNeg 1)) 0 T1 = T2 at *
    have u119 : T2 119 = T1 119 := hpT2.1 119 rfl
    have u120 : T2 120 = T 120 := (hpT2.1 120 rfl).trans t120
    have u117 : T2 117 = T 117 := (hpT2.1 117 rfl).trans t117
    have u13 : ∀ i, T2 13 i = T 13 i := fun i => congrFun ((hpT2.1 13 rfl).trans (hkT.1 13 rfl)) i
    refine ⟨⟨(zSeal_kc rfl hkS2 (zSeal_km rfl hkT2 (zQ_Seal h))), (zKey_kc rfl hkS2 (zKey_km rfl hkT2 (zQ_Key h))), (zEng_kc rfl hkS2 (zEng_km rfl hkT2 (zQ_Eng h))), (zRul_kc rfl hkS2 (zRul_km rfl hkT2 (zQ_Rul h))), (zPpl_kc rfl hkS2 (zPpl_km rfl hkT2 (zQ_Ppl h))), zTok_kc rfl hpS2 (zTok_km rfl hpT2 z1), w1, ?_, (zSto_kc rfl hkS2 (zSto_km rfl hkT2 (zQ_Sto h))), (zFar_kc rfl hkS2 (zFar_km rfl hkT2 (zQ_Far h))), (zLog_kc rfl hkS2 (zLog_km rfl hkT2 (zQ_Log h))), (zWra_kc rfl hkS2 (zWra_km rfl hkT2 (zQ_Wra h))), (zCas_kc rfl hkS2 (zCas_km rfl hkT2 (zQ_Cas h))), (zCer_kc rfl hkS2 (zCer_km rfl hkT2 (zQ_Cer h))), (zSin_kc rfl hkS2 (zSin_km rfl hkT2 (zQ_Sin h)))⟩, ?_, ?_⟩
    · intro i hi e
      rw [u13] at hi
      obtain ⟨v1, v2⟩ := w2 i (by rw [t13]; exact hi) e
      rw [t125] at v2
      rw [t120] at v1
      refine ⟨by rw [u119, u120]; exact v1, ?_⟩
      rw [u120, u13]
      exact (zQ_LT h i hi v2).2
    · rw [s40, if_pos c0, (show zb (T 119 a.toNatClampNeg = 0) = 1 from if_pos c0)]
      exact z2
    · intro b hb hor i hi e1 e2
      rw [u13] at hi
      rw [u119] at e1
      rw [u117] at e2
      have e3 : T 119 i = 0 := Classical.byContradiction (fun hn => z3 i hn e1)
      have e4 := hb i hi e3 e2
      rcases hor with rfl | hu
      · have : i = b.toNatClampNeg := by omega
        rw [this] at e1
        exact z4 e1
      · exact hu i hi e3 e2
  · have eS : G200 a S = S := by
      unfold G200
      rw [s40, if_neg c0]
      exact zdl_id (zQ_Lea h) hT (zQ_LT h) _
    have e1 : T 119 a.toNatClampNeg = 1 := (hT.2.2.2.2.2.2.2.2.2.2.2.2.2.2.2.2.2.1 a.toNatClampNeg).resolve_left c0
    have eT : G264 a T = T := by
      unfold G264
      rw [(show zb (T 119 a.toNatClampNeg = 0) = 0 from if_neg c0), zup_id T 119 _ 1 e1]
      unfold K264_58_S K264_58 K264_18_c2 K264_18_S K264_18
      rw [if_pos (show (0 : Int32) ≤ 0 by decide)]
      rfl
    rw [eS, eT]
    refine ⟨h, ?_, ?_⟩
    · rw [s40, if_neg c0, (show zb (T 119 a.toNatClampNeg = 0) = 0 from if_neg c0), zup_id T 119 _ 1 e1]
      unfold K264_18_c2 K264_18
      rw [if_pos (show (0 : Int32) ≤ 0 by decide)]
      rfl
    · intro b hb hor i hi k1 k2
      rcases hor with rfl | hu
      · have e4 := hb i hi k1 k2
        have : i = b.toNatClampNeg := by omega
        rw [this] at k1
        exact c0 k1
      · exact hu i hi k1 k2
