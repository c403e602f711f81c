/-! what a request does ahead of its own part, and behind it (wip/whole/gen/gen82.py) -/
def zQ (n : Nat) (S T : zS) : Prop := zSeal S T ∧ zKey n S T ∧ zEng S T ∧ zRul S T ∧ zPpl S T ∧ zTok S T ∧ zLea S T ∧ zLT S T ∧ zSto n S T ∧ zFar n S T ∧ zLog n S T ∧ zWra S T ∧ zCas S T ∧ zCer S T ∧ zSin S T
theorem zQ_Seal {n : Nat} {S T : zS} (h : zQ n S T) : zSeal S T := by unfold zQ at h; exact h.1
theorem zQ_Key {n : Nat} {S T : zS} (h : zQ n S T) : zKey n S T := by unfold zQ at h; exact h.2.1
theorem zQ_Eng {n : Nat} {S T : zS} (h : zQ n S T) : zEng S T := by unfold zQ at h; exact h.2.2.1
theorem zQ_Rul {n : Nat} {S T : zS} (h : zQ n S T) : zRul S T := by unfold zQ at h; exact h.2.2.2.1
theorem zQ_Ppl {n : Nat} {S T : zS} (h : zQ n S T) : zPpl S T := by unfold zQ at h; exact h.2.2.2.2.1
theorem zQ_Tok {n : Nat} {S T : zS} (h : zQ n S T) : zTok S T := by unfold zQ at h; exact h.2.2.2.2.2.1
theorem zQ_Lea {n : Nat} {S T : zS} (h : zQ n S T) : zLea S T := by unfold zQ at h; exact h.2.2.2.2.2.2.1
theorem zQ_LT {n : Nat} {S T : zS} (h : zQ n S T) : zLT S T := by unfold zQ at h; exact h.2.2.2.2.2.2.2.1
theorem zQ_Sto {n : Nat} {S T : zS} (h : zQ n S T) : zSto n S T := by unfold zQ at h; exact h.2.2.2.2.2.2.2.2.1
theorem zQ_Far {n : Nat} {S T : zS} (h : zQ n S T) : zFar n S T := by unfold zQ at h; exact h.2.2.2.2.2.2.2.2.2.1
theorem zQ_Log {n : Nat} {S T : zS} (h : zQ n S T) : zLog n S T := by unfold zQ at h; exact h.2.2.2.2.2.2.2.2.2.2.1
theorem zQ_Wra {n : Nat} {S T : zS} (h : zQ n S T) : zWra S T := by unfold zQ at h; exact h.2.2.2.2.2.2.2.2.2.2.2.1
theorem zQ_Cas {n : Nat} {S T : zS} (h : zQ n S T) : zCas S T := by unfold zQ at h; exact h.2.2.2.2.2.2.2.2.2.2.2.2.1
theorem zQ_Cer {n : Nat} {S T : zS} (h : zQ n S T) : zCer S T := by unfold zQ at h; exact h.2.2.2.2.2.2.2.2.2.2.2.2.2.1
theorem zQ_Sin {n : Nat} {S T : zS} (h : zQ n S T) : zSin S T := by unfold zQ at h; exact h.2.2.2.2.2.2.2.2.2.2.2.2.2.2
theorem zR_Q {n : Nat} {S T : zS} (h : zR n S T) : zQ n S T := ⟨zR_Seal h, zR_Key h, zR_Eng h, zR_Rul h, zR_Ppl h, zR_Tok h, zR_Lea h, zR_LT h, zR_Sto h, zR_Far h, zR_Log h, zR_Wra h, zR_Cas h, zR_Cer h, zR_Sin h⟩
theorem zQ_R {n : Nat} {S T : zS} (h : zQ n S T) (hu : zUse S T) : zR n S T := ⟨zQ_Seal h, zQ_Key h, zQ_Eng h, zQ_Rul h, zQ_Ppl h, zQ_Tok h, zQ_Lea h, zQ_LT h, hu, zQ_Sto h, zQ_Far h, zQ_Log h, zQ_Wra h, zQ_Cas h, zQ_Cer h, zQ_Sin h⟩
theorem zQ_thr {n : Nat} {S T : zS} (h : zQ n S T) (v : Int32) : zQ n S (z_up T 13 0 v) := ⟨(zSeal_km rfl (zkp_upf (l := [13]) (fl := [13000]) zkp_S rfl rfl) (zQ_Seal h)), (zKey_km rfl (zkp_upf (l := [13]) (fl := [13000]) zkp_S rfl rfl) (zQ_Key h)), (zEng_km rfl (zkp_upf (l := [13]) (fl := [13000]) zkp_S rfl rfl) (zQ_Eng h)), (zRul_km rfl (zkp_upf (l := [13]) (fl := [13000]) zkp_S rfl rfl) (zQ_Rul h)), (zPpl_km rfl (zkp_upf (l := [13]) (fl := [13000]) zkp_S rfl rfl) (zQ_Ppl h)), (zTok_km rfl (zkp_upf (l := [13]) (fl := [13000]) zkp_S rfl rfl) (zQ_Tok h)), (zLea_km rfl (zkp_upf (l := [13]) (fl := [13000]) zkp_S rfl rfl) (zQ_Lea h)), (zLT_km rfl (zkp_upf (l := [13]) (fl := [13000]) zkp_S rfl rfl) (zQ_LT h)), (zSto_km rfl (zkp_upf (l := [13]) (fl := [13000]) zkp_S rfl rfl) (zQ_Sto h)), (zFar_km rfl (zkp_upf (l := [13]) (fl := [13000]) zkp_S rfl rfl) (zQ_Far h)), (zLog_km rfl (zkp_upf (l := [13]) (fl := [13000]) zkp_S rfl rfl) (zQ_Log h)), (zWra_km rfl (zkp_upf (l := [13]) (fl := [13000]) zkp_S rfl rfl) (zQ_Wra h)), (zCas_km rfl (zkp_upf (l := [13]) (fl := [13000]) zkp_S rfl rfl) (zQ_Cas h)), (zCer_km rfl (zkp_upf (l := [13]) (fl := [13000]) zkp_S rfl rfl) (zQ_Cer h)), (zSin_km rfl (zkp_upf (l := [13]) (fl := [13000]) zkp_S rfl rfl) (zQ_Sin h))⟩
theorem zQ_out {n : Nat} {S T : zS} (h : zQ n S T) (v : Int32) : zQ n (z_up S 148 0 v) T := ⟨(zSeal_kc rfl (zkp_up (l := [148]) (fl := []) zkp_S rfl rfl) (zQ_Seal h)), (zKey_kc rfl (zkp_up (l := [148]) (fl := []) zkp_S rfl rfl) (zQ_Key h)), (zEng_kc rfl (zkp_up (l := [148]) (fl := []) zkp_S rfl rfl) (zQ_Eng h)), (zRul_kc rfl (zkp_up (l := [148]) (fl := []) zkp_S rfl rfl) (zQ_Rul h)), (zPpl_kc rfl (zkp_up (l := [148]) (fl := []) zkp_S rfl rfl) (zQ_Ppl h)), (zTok_kc rfl (zkp_up (l := [148]) (fl := []) zkp_S rfl rfl) (zQ_Tok h)), (zLea_kc rfl (zkp_up (l := [148]) (fl := []) zkp_S rfl rfl) (zQ_Lea h)), (zLT_kc rfl (zkp_up (l := [148]) (fl := []) zkp_S rfl rfl) (zQ_LT h)), (zSto_kc rfl (zkp_up (l := [148]) (fl := []) zkp_S rfl rfl) (zQ_Sto h)), (zFar_kc rfl (zkp_up (l := [148]) (fl := []) zkp_S rfl rfl) (zQ_Far h)), (zLog_kc rfl (zkp_up (l := [148]) (fl := []) zkp_S rfl rfl) (zQ_Log h)), (zWra_kc rfl (zkp_up (l := [148]) (fl := []) zkp_S rfl rfl) (zQ_Wra h)), (zCas_kc rfl (zkp_up (l := [148]) (fl := []) zkp_S rfl rfl) (zQ_Cas h)), (zCer_kc rfl (zkp_up (l := [148]) (fl := []) zkp_S rfl rfl) (zQ_Cer h)), (zSin_kc rfl (zkp_up (l := [148]) (fl := []) zkp_S rfl rfl) (zQ_Sin h))⟩
theorem zQ_up {n : Nat} {S T : zS} (h : zQ n S T) : zQ (n + 1) S T := ⟨(zQ_Seal h), (zKey_up (zQ_Key h)), (zQ_Eng h), (zQ_Rul h), (zQ_Ppl h), (zQ_Tok h), (zQ_Lea h), (zQ_LT h), (zSto_up (zQ_Sto h)), (zFar_up (zQ_Far h)), (zLog_up (zQ_Log h)), (zQ_Wra h), (zQ_Cas h), (zQ_Cer h), (zQ_Sin h)⟩
theorem zU_thr {S T : zS} (h : zUse S T) (v : Int32) : zUse S (z_up T 13 0 v) := zUse_km rfl (zkp_upf (l := [13]) (fl := [13000]) zkp_S rfl rfl) h
theorem zU_out {S T : zS} (h : zUse S T) (v : Int32) : zUse (z_up S 148 0 v) T := zUse_kc rfl (zkp_up (l := [148]) (fl := []) zkp_S rfl rfl) h
theorem zfold_sim {α β : Type} {f : Nat → α → α} {g : Nat → β → β} {i : Nat} {I : Nat → α → β → Prop} {a : α} {b : β} : ∀ {n : Nat}, I 0 a b → (∀ j c d, j < n → I j c d → I (j + 1) (f (i + j) c) (g (i + j) d)) → I n (zfold f i n a) (zfold g i n b)
  | 0, h0, _ => h0
  | n + 1, h0, hs => hs n _ _ (Nat.lt_succ_self n) (zfold_sim h0 (fun j c d hj => hs j c d (Nat.lt_succ_of_lt hj)))
theorem zup_id (S : zS) (k i : Nat) (v : Int32) (h : S k i = v) : z_up S k i v = S := by
  funext a b
  rw [zup2]
  split
  · rename_i e; subst e
    split
    · rename_i e2; subst e2; exact h.symm
    · rfl
  · rfl
/-- a lease's end: its row but for the one in hand -/
def zLeX (j : Nat) (S T : zS) : Prop := S 6 0 = T 13 57 ∧ S 41 = T 120 ∧ S 42 = T 121 ∧ S 43 = T 122 ∧ S 44 = T 123 ∧ S 45 = T 124 ∧ S 46 = T 125 ∧ S 47 = T 126 ∧ S 48 = T 127 ∧ S 49 = T 128 ∧ S 50 = T 129 ∧ zn 40 (T 13 57) ∧ zA 40 40 (T 120) ∧ zA 40 216 (T 121) ∧ zA 40 3 (T 122) ∧ (∀ i, ¬ i = j → T 125 i = 0 → T 126 i = 0) ∧ (∀ i, ¬ i = j → T 125 i = 1 → T 126 i = 1 ∨ T 126 i = 2) ∧ (∀ i, i < 3 → zn 2 (T 127 i)) ∧ (∀ i, (T 13 57).toNatClampNeg ≤ i → T 126 i = 0) ∧ (T 126 j = 0 ∨ T 126 j = 1 ∨ T 126 j = 2) ∧ j < (T 13 57).toNatClampNeg
theorem zLeX_t {j : Nat} {S T : zS} (h : zLeX j S T) : zLea (G60 (Int32.ofNat j) S) (G269 (Int32.ofNat j) T) := by
  unfold zLeX at h
  obtain ⟨h0, h1, h2, h3, h4, h5, h6, h7, h8, h9, h10, h11, h12, h13, h14, h15, h16, h17, h18, h19, h20⟩ := h
  have hj : j < 40 := by have := zn_cl h11; omega
  have hix := zk_ix j (by omega)
  have e3 : (if ((3 : Int32) ≤ T 126 j + 1) then (3 : Int32) else 1) = (if (T 126 j + 1 = 3) then (3 : Int32) else 1) := by
    rcases h19 with e | e | e <;> rw [e] <;> decide
  have e4 : ∀ x : Int32, x = (if (T 126 j + 1 = 3) then (3 : Int32) else 1) → x = 0 → False := by
    intro x e1 e2
    rw [e2] at e1
    revert e1
    split <;> decide
  have e5 : (if (T 126 j + 1 = 3) then (3 : Int32) else 1) = 1 → T 126 j + 1 = 1 ∨ T 126 j + 1 = 2 := by
    rcases h19 with e | e | e <;> rw [e] <;> decide
  unfold zLea G60 G269
  rw [hix, h8, h3, h7, h9, e3]
  by_cases hp : T 127 (T 122 j).toNatClampNeg = 1
  · rw [if_pos hp, if_pos hp]
    simp only [zup2, zup1, h0, h1, h2, h3, h4, h5, h6, h7, h8, h9, h10, not_false_eq_true, not_true_eq_false, Nat.reduceEqDiff, reduceIte, true_and, and_true, ite_true, ite_false, upd_r]
    refine ⟨h11, h12, h13, h14, ?_, ?_, h17, ?_⟩
    · intro i
      by_cases hi : i = j
      · rw [if_pos hi, if_pos hi]; intro e; exact (e4 _ rfl e).elim
      · rw [if_neg hi, if_neg hi]; exact h15 i hi
    · intro i
      by_cases hi : i = j
      · rw [if_pos hi, if_pos hi]; exact e5
      · rw [if_neg hi, if_neg hi]; exact h16 i hi
    · intro i hi2
      by_cases hi : i = j
      · omega
      · rw [if_neg hi]; exact h18 i hi2
  · rw [if_neg hp, if_neg hp]
    simp only [zup2, zup1, h0, h1, h2, h3, h4, h5, h6, h7, h8, h9, h10, not_false_eq_true, not_true_eq_false, Nat.reduceEqDiff, reduceIte, true_and, and_true, ite_true, ite_false, upd_r]
    refine ⟨h11, h12, h13, h14, ?_, ?_, h17, ?_⟩
    · intro i
      by_cases hi : i = j
      · rw [if_pos hi, if_pos hi]; intro e; exact absurd e (by decide)
      · rw [if_neg hi, if_neg hi]; exact h15 i hi
    · intro i
      by_cases hi : i = j
      · rw [if_pos hi, if_pos hi]; intro e; exact absurd e (by decide)
      · rw [if_neg hi, if_neg hi]; exact h16 i hi
    · intro i hi2
      by_cases hi : i = j
      · omega
      · rw [if_neg hi]; exact h18 i hi2
theorem zLeX_end {j : Nat} {S T : zS} (h : zLea S T) (hj : j < (T 13 57).toNatClampNeg) (h0 : T 125 j = 0) (v : Int32) : zLeX j (z_up S 44 j v) (z_up (z_up T 123 j v) 126 j 0) := by
  unfold zLea at h
  obtain ⟨k0, k1, k2, k3, k4, k5, k6, k7, k8, k9, k10, k11, k12, k13, k14, k15, k16, k17, k18⟩ := h
  have hu : upd (T 126) j 0 = T 126 := zupd_s _ _ _ (k15 j h0)
  unfold zLeX
  simp only [zup2, zup1, k0, k1, k2, k3, k4, k5, k6, k7, k8, k9, k10, hu, not_false_eq_true, not_true_eq_false, Nat.reduceEqDiff, reduceIte, true_and, and_true, ite_true, ite_false]
  refine ⟨k11, k12, k13, k14, ?_, ?_, k17, ?_, Or.inl trivial, hj⟩
  · intro i hi e
    rw [if_neg hi]; exact k15 i e
  · intro i hi e
    rw [if_neg hi]; exact k16 i e
  · intro i hi
    split
    · rfl
    · exact k18 i hi
theorem zLeX_ag {j : Nat} {S T : zS} (h : zLea S T) (hj : j < (T 13 57).toNatClampNeg) (h0 : T 125 j = 1) : zLeX j S T := by
  unfold zLea at h
  obtain ⟨k0, k1, k2, k3, k4, k5, k6, k7, k8, k9, k10, k11, k12, k13, k14, k15, k16, k17, k18⟩ := h
  exact ⟨k0, k1, k2, k3, k4, k5, k6, k7, k8, k9, k10, k11, k12, k13, k14, fun i _ => k15 i, fun i _ => k16 i, k17, k18, Or.inr (k16 j h0), hj⟩
/-- what a lease's end leaves: the state, never LIVE; all others -/
theorem z269_s (j : Nat) (hj : j < 40) (T : zS) : ¬ (G269 (Int32.ofNat j) T) 125 j = 0 ∧ (∀ i, ¬ i = j → (G269 (Int32.ofNat j) T) 125 i = T 125 i) ∧ (∀ i, ¬ i = j → (G269 (Int32.ofNat j) T) 123 i = T 123 i) := by
  unfold G269
  rw [zk_ix j (by omega)]
  by_cases hp : T 127 (T 122 j).toNatClampNeg = 1
  · rw [if_pos hp]
    simp only [zup2, Nat.reduceEqDiff, reduceIte, ite_true, ite_false]
    refine ⟨?_, fun i hi => by rw [if_neg hi], fun i hi => trivial⟩
    split <;> decide
  · rw [if_neg hp]
    simp only [zup2, Nat.reduceEqDiff, reduceIte, ite_true, ite_false]
    exact ⟨by decide, fun i hi => by rw [if_neg hi], fun i hi => trivial⟩
theorem z60_k (a : Int32) (S : zS) : (∀ c, ¬ c = 46 → ¬ c = 47 → ¬ c = 49 → (G60 a S) c = S c) := by
  intro c h1 h2 h3
  unfold G60
  split <;> simp only [zup1, h1, h2, h3, if_false]
theorem z269_k (a : Int32) (S : zS) : (∀ c, ¬ c = 125 → ¬ c = 126 → ¬ c = 128 → (G269 a S) c = S c) := by
  intro c h1 h2 h3
  unfold G269
  split <;> simp only [zup1, h1, h2, h3, if_false]
/-- the ends of the leases of dead tokens -/
theorem zdl {S T : zS} (h : zLea S T) (h40 : S 40 = T 119) (x1 x2 x3 : Int32) (hx : ¬ x1 ≤ 0) (h1 : T 13 1 = x2) : zLea (K54_6_5_2_S x2 0 S) (K264_58_S x3 x1 0 T) ∧ (∀ i, i < (T 13 57).toNatClampNeg → (K264_58_S x3 x1 0 T) 125 i = 0 → T 119 (T 120 i).toNatClampNeg = 0 ∧ T 125 i = 0) := by
  unfold K54_6_5_2_S K54_6_5_2 K264_58_S K264_58
  rw [if_neg hx, h.1]
  have key := zfold_sim (f := k54_6_5_2 x2) (g := k264_58 x3 x1) (i := 0) (n := (T 13 57).toNatClampNeg - 0) (a := S) (b := T) (I := fun j c d => zLea c d ∧ c 40 = T 119 ∧ d 119 = T 119 ∧ d 13 = T 13 ∧ d 120 = T 120 ∧ (∀ i, j ≤ i → d 125 i = T 125 i) ∧ (∀ i, i < j → d 125 i = 0 → T 119 (T 120 i).toNatClampNeg = 0 ∧ T 125 i = 0)) ⟨h, h40, rfl, rfl, rfl, fun _ _ => rfl, fun i hi => absurd hi (by omega)⟩ (fun j c d hj hI => by
    obtain ⟨hL, e40, e119, e13, e120, eg, el⟩ := hI
    have hj' : j < (d 13 57).toNatClampNeg := by rw [e13]; omega
    have hj4 : j < 40 := by have := zn_cl hL.2.2.2.2.2.2.2.2.2.2.2.1; omega
    have s46 : c 46 = d 125 := hL.2.2.2.2.2.2.1
    have s41 : c 41 = d 120 := hL.2.1
    rw [Nat.zero_add]
    unfold k54_6_5_2 k264_58
    rw [s46, s41, e40, e119]
    by_cases c0 : d 125 j = 0
    · rw [if_pos c0, if_pos c0]
      by_cases c1 : T 119 (d 120 j).toNatClampNeg = 0
      · rw [if_pos c1, if_pos c1]
        refine ⟨hL, e40, e119, e13, e120, fun i hi => eg i (by omega), fun i hi e => ?_⟩
        by_cases hij : i = j
        · subst hij
          rw [e120] at c1
          exact ⟨c1, (eg i (Nat.le_refl _)).symm.trans e⟩
        · exact el i (by omega) e
      · rw [if_neg c1, if_neg c1, e13, h1]
        have hz := zLeX_t (zLeX_end hL hj' c0 x2)
        obtain ⟨z1, z2, z3⟩ := z269_s j hj4 (z_up (z_up d 123 j x2) 126 j 0)
        refine ⟨hz, ?_, ?_, ?_, ?_, fun i hi => ?_, fun i hi e => ?_⟩
        · rw [z60_k _ _ 40 (by decide) (by decide) (by decide)]; exact (zupc rfl).trans e40
        · rw [z269_k _ _ 119 (by decide) (by decide) (by decide)]; exact (zupc rfl).trans ((zupc rfl).trans e119)
        · rw [z269_k _ _ 13 (by decide) (by decide) (by decide)]; exact (zupc rfl).trans ((zupc rfl).trans e13)
        · rw [z269_k _ _ 120 (by decide) (by decide) (by decide)]; exact (zupc rfl).trans ((zupc rfl).trans e120)
        · rw [z2 i (by omega)]; exact (zupci rfl).trans ((zupci rfl).trans (eg i (by omega)))
        · by_cases hij : i = j
          · subst hij; exact absurd e z1
          · rw [z2 i hij] at e
            exact el i (by omega) (((zupci rfl).trans (zupci rfl)).symm.trans e)
    · rw [if_neg c0, if_neg c0]
      refine ⟨hL, e40, e119, e13, e120, fun i hi => eg i (by omega), fun i hi e => ?_⟩
      by_cases hij : i = j
      · subst hij; exact absurd e c0
      · exact el i (by omega) e)
  refine ⟨key.1, fun i hi e => key.2.2.2.2.2.2 i (by omega) e⟩
theorem zdl_id {S T : zS} (h : zLea S T) (hT : zTok S T) (hL : zLT S T) (x : Int32) : K54_6_5_2_S x 0 S = S := by
  unfold K54_6_5_2_S K54_6_5_2
  refine zfold_inv (I := fun _ b => b = S) rfl (fun j b hj hb => ?_)
  rw [hb, Nat.zero_add]
  unfold k54_6_5_2
  have s46 : S 46 = T 125 := h.2.2.2.2.2.2.1
  have s41 : S 41 = T 120 := h.2.1
  have s6 : S 6 0 = T 13 57 := h.1
  have s40 : S 40 = T 119 := hT.2.2.2.2.2.2.2.2.2.1
  rw [s6] at hj
  rw [s46, s41, s40]
  by_cases c0 : T 125 j = 0
  · rw [if_pos c0, if_pos (hL j (by omega) c0).1]
  · rw [if_neg c0]
/-- deaths of tokens: the token's own mark is set, then all behind it are looked at -/
theorem zkill {S T : zS} (h : zTok S T) (a : Int32) (ha : 0 ≤ a.toInt) (hlt : a.toInt < (T 13 45).toInt) : zTok (K129_18_S a 1 (a + 1).toNatClampNeg (z_up S 40 a.toNatClampNeg 1)) (K264_18_S a 1 (a + 1).toNatClampNeg (z_up T 119 a.toNatClampNeg 1)) ∧ K129_18_c2 a 1 (a + 1).toNatClampNeg (z_up S 40 a.toNatClampNeg 1) = K264_18_c2 a 1 (a + 1).toNatClampNeg (z_up T 119 a.toNatClampNeg 1) ∧ (∀ i, ¬ T 119 i = 0 → ¬ (K264_18_S a 1 (a + 1).toNatClampNeg (z_up T 119 a.toNatClampNeg 1)) 119 i = 0) ∧ ¬ (K264_18_S a 1 (a + 1).toNatClampNeg (z_up T 119 a.toNatClampNeg 1)) 119 a.toNatClampNeg = 0 ∧ ¬ K264_18_c2 a 1 (a + 1).toNatClampNeg (z_up T 119 a.toNatClampNeg 1) ≤ 0 := by
  have hn0 := h.2.2.2.2.2.2.2.2.2.2.1
  have hcl := zn_cl hn0
  have hna := zk_nat ha
  have hnt := zk_nat hn0.1
  have h1 : zTok (z_up S 40 a.toNatClampNeg 1) (z_up T 119 a.toNatClampNeg 1) := by
    unfold zTok at h ⊢
    obtain ⟨k0, k1, k2, k3, k4, k5, k6, k7, k8, k9, k10, k11, k12, k13, k14, k15, k16, k17, k18, k19⟩ := h
    simp only [zup2, zup1, k0, k1, k2, k3, k4, k5, k6, k7, k8, k9, not_false_eq_true, not_true_eq_false, Nat.reduceEqDiff, reduceIte, true_and, and_true, ite_true, ite_false]
    refine ⟨k10, k11, k12, k13, k14, ?_, k16, ?_, k18, k19⟩
    · intro j hj
      rw [if_neg (by omega)]; exact k15 j hj
    · intro j
      split
      · exact Or.inr rfl
      · exact k17 j
  unfold K129_18_S K129_18_c2 K129_18 K264_18_S K264_18_c2 K264_18
  rw [if_neg (show ¬ (1 : Int32) ≤ 0 by decide), show (z_up S 40 a.toNatClampNeg 1) 5 0 = T 13 45 from (zupci rfl).trans h.1, show (z_up T 119 a.toNatClampNeg 1) 13 45 = T 13 45 from zupci rfl]
  have key := zfold_sim (f := k129_18 a) (g := k264_18 a) (i := (a + 1).toNatClampNeg) (n := (T 13 45).toNatClampNeg - (a + 1).toNatClampNeg) (a := ((1 : Int32), z_up S 40 a.toNatClampNeg 1)) (b := ((1 : Int32), z_up T 119 a.toNatClampNeg 1)) (I := fun j c d => c.1 = d.1 ∧ zTok c.2 d.2 ∧ d.2 13 45 = T 13 45 ∧ (∀ i, ¬ (z_up T 119 a.toNatClampNeg 1) 119 i = 0 → ¬ d.2 119 i = 0) ∧ zn (1 + j) d.1 ∧ 1 ≤ d.1.toInt) ⟨rfl, h1, (show (z_up T 119 a.toNatClampNeg 1) 13 45 = T 13 45 from zupci rfl), fun _ hh => hh, (show zn (1 + 0) (1 : Int32) from by unfold zn; decide), (show 1 ≤ (1 : Int32).toInt from by decide)⟩ (fun j c d hj hI => by
    obtain ⟨e1, hT, e13, em, ez, e0⟩ := hI
    generalize hJ : (a + 1).toNatClampNeg + j = J
    have hJ2 : J < (T 13 45).toNatClampNeg := by omega
    have hJ4 : J < 40 := by omega
    have hT' := hT
    unfold zTok at hT'
    obtain ⟨k0, k1, k2, k3, k4, k5, k6, k7, k8, k9, k10, k11, k12, k13, k14, k15, k16, k17, k18, k19⟩ := hT'
    have hpar := k13 J (by rw [e13]; exact hJ2)
    have hF : F130 (Int32.ofNat J) c.2 = zb ((d.2 118 J = 0) ∧ (((¬ (d.2 110 J) < 0) ∧ (¬ (d.2 13 45) ≤ (d.2 110 J))) ∧ (¬ d.2 119 (d.2 110 J).toNatClampNeg = 0))) := by
      unfold F130
      rw [zk_ix J (by omega), k1, k8, k9, k0]
    have hpos : zn (1 + (j + 1)) (d.1 + 1) ∧ 1 ≤ (d.1 + 1).toInt := by
      have := zn_succ ez (by omega)
      refine ⟨by rw [show 1 + (j + 1) = 1 + j + 1 from rfl]; exact this, ?_⟩
      unfold zn at ez
      rw [zk_tadd (by rw [zk_1]; omega) (by rw [zk_1]; omega), zk_1]; omega
    have hsam : zn (1 + (j + 1)) d.1 := zn_up ez
    unfold k129_18 k264_18
    dsimp only
    rw [hF, k9, e1]
    by_cases c0 : d.2 119 J = 0
    · rw [if_pos c0, if_pos c0, if_pos c0, if_pos c0]
      by_cases c1 : d.2 110 J = -1
      · have hz : (zb ((d.2 118 J = 0) ∧ (((¬ (d.2 110 J) < 0) ∧ (¬ (d.2 13 45) ≤ (d.2 110 J))) ∧ (¬ d.2 119 (d.2 110 J).toNatClampNeg = 0)))) = 0 := by
          rw [zb_0]; rintro ⟨-, ⟨q, -⟩, -⟩; rw [c1] at q; exact q (by decide)
        rw [if_pos hz, if_pos hz, if_pos c1, if_pos c1]
        exact ⟨rfl, hT, e13, em, hsam, e0⟩
      · have hr := hpar.resolve_left c1
        have g1 : ¬ (d.2 110 J) < 0 := by rw [zk_lt, zlt_0]; omega
        have g2 : ¬ (d.2 13 45) ≤ (d.2 110 J) := by rw [zk_le]; omega
        rw [if_neg c1, if_neg c1]
        by_cases c2 : d.2 119 (d.2 110 J).toNatClampNeg = 0
        · have hz : (zb ((d.2 118 J = 0) ∧ (((¬ (d.2 110 J) < 0) ∧ (¬ (d.2 13 45) ≤ (d.2 110 J))) ∧ (¬ d.2 119 (d.2 110 J).toNatClampNeg = 0)))) = 0 := by
            rw [zb_0]; rintro ⟨-, -, q⟩; exact q c2
          rw [if_pos hz, if_pos hz, if_pos c2, if_pos c2]
          exact ⟨rfl, hT, e13, em, hsam, e0⟩
        · rw [if_neg c2, if_neg c2]
          by_cases c3 : d.2 118 J = 0
          · have hz : ¬ (zb ((d.2 118 J = 0) ∧ (((¬ (d.2 110 J) < 0) ∧ (¬ (d.2 13 45) ≤ (d.2 110 J))) ∧ (¬ d.2 119 (d.2 110 J).toNatClampNeg = 0)))) = 0 := by
              rw [zb_0]; exact fun q => q ⟨c3, ⟨g1, g2⟩, c2⟩
            rw [if_neg hz, if_neg hz, if_pos c3, if_pos c3]
            refine ⟨rfl, ?_, (zupci rfl).trans e13, ?_, hpos.1, hpos.2⟩
            · unfold zTok
              simp only [zup2, zup1, k0, k1, k2, k3, k4, k5, k6, k7, k8, k9, not_false_eq_true, not_true_eq_false, Nat.reduceEqDiff, reduceIte, true_and, and_true, ite_true, ite_false]
              refine ⟨k10, k11, k12, k13, k14, ?_, k16, ?_, k18, k19⟩
              · intro i hi
                rw [if_neg (by rw [e13] at hi; omega)]; exact k15 i hi
              · intro i
                split
                · exact Or.inr rfl
                · exact k17 i
            · intro i hi
              show ¬ (z_up d.2 119 J 1) 119 i = 0
              rw [zup2, if_pos rfl]
              split
              · decide
              · exact em i hi
          · have hz : (zb ((d.2 118 J = 0) ∧ (((¬ (d.2 110 J) < 0) ∧ (¬ (d.2 13 45) ≤ (d.2 110 J))) ∧ (¬ d.2 119 (d.2 110 J).toNatClampNeg = 0)))) = 0 := by
              rw [zb_0]; rintro ⟨q, -, -⟩; exact c3 q
            rw [if_pos hz, if_pos hz, if_neg c3, if_neg c3]
            exact ⟨rfl, hT, e13, em, hsam, e0⟩
    · rw [if_neg c0, if_neg c0, if_neg c0, if_neg c0]
      exact ⟨rfl, hT, e13, em, hsam, e0⟩)
  obtain ⟨r1, r2, r3, r4, r5, r6⟩ := key
  have hup : ∀ i, (z_up T 119 a.toNatClampNeg 1) 119 i = if i = a.toNatClampNeg then 1 else T 119 i := fun i => by rw [zup2, if_pos rfl]
  refine ⟨r2, r1, fun i hi => r4 i ?_, r4 _ ?_, ?_⟩
  · rw [hup]; split
    · decide
    · exact hi
  · rw [hup, if_pos rfl]; decide
  · rw [zk_le, zlt_0]; omega
/-- a token whose uses may be at 0 although it lives -/
def zUm (a : Int32) (T : zS) : Prop := ∀ j, j < (T 13 45).toNatClampNeg → T 119 j = 0 → T 117 j = 0 → (j : Int) = a.toInt
theorem zUm_of {S T : zS} (h : zUse S T) (a : Int32) : zUm a T := fun j hj h1 h2 => absurd h2 (h j hj h1)
theorem zdie {n : Nat} {S T : zS} (h : zQ n S T) (a : Int32) (ha : 0 ≤ a.toInt) (hlt : a.toInt < (T 13 45).toInt) : zQ n (G200 a S) (G264 a T) ∧ (if ((S 40 a.toNatClampNeg) = 0) then ((K129_18_c2 a 1 (a + 1).toNatClampNeg (z_up S 40 a.toNatClampNeg 1)) : Int32) else 0) = K264_18_c2 a (zb ((T 119 a.toNatClampNeg) = 0)) (a + 1).toNatClampNeg (z_up T 119 a.toNatClampNeg 1) ∧ (∀ b : Int32, zUm b T → (b = a ∨ zUse S T) → zUse (G200 a S) (G264 a T)) := by
  have hT := zQ_Tok h
  have s40 : S 40 = T 119 := hT.2.2.2.2.2.2.2.2.2.1
  have hnt := zk_nat (zQ_Tok h).2.2.2.2.2.2.2.2.2.2.1.1
  have hna := zk_nat ha
  have hkey := zQ_Key h
  by_cases c0 : T 119 a.toNatClampNeg = 0
  · obtain ⟨z1, z2, z3, z4, z5⟩ := zkill hT a ha hlt
    have eS : G200 a S = K54_6_5_2_S (T 13 1) 0 (K129_18_S a 1 (a + 1).toNatClampNeg (z_up S 40 a.toNatClampNeg 1)) := by
      unfold G200
      rw [s40, if_pos c0]
      have e : (K129_18_S a 1 (a + 1).toNatClampNeg (z_up S 40 a.toNatClampNeg 1)) 0 11 = T 13 1 := ((p_K129_18_S a 1 (a + 1).toNatClampNeg (z_up S 40 a.toNatClampNeg 1)).2 0 11 rfl rfl).trans ((zupci rfl).trans hkey.2.2.2.2.2.2.1)
      rw [e]
    have eT : G264 a T = K264_58_S a (K264_18_c2 a 1 (a + 1).toNatClampNeg (z_up T 119 a.toNatClampNeg 1)) 0 (K264_18_S a 1 (a + 1).toNatClampNeg (z_up T 119 a.toNatClampNeg 1)) := by
      unfold G264
      rw [(show zb (T 119 a.toNatClampNeg = 0) = 1 from if_pos c0)]
    have hpS := p_K129_18_S a 1 (a + 1).toNatClampNeg (z_up S 40 a.toNatClampNeg 1)
    have hpT := p_K264_18_S a 1 (a + 1).toNatClampNeg (z_up T 119 a.toNatClampNeg 1)
    have hkS : zkp [40] [] S (K129_18_S a 1 (a + 1).toNatClampNeg (z_up S 40 a.toNatClampNeg 1)) := zkp_tr (zkp_up zkp_S rfl rfl) hpS rfl rfl
    have hkT : zkp [119] [] T (K264_18_S a 1 (a + 1).toNatClampNeg (z_up T 119 a.toNatClampNeg 1)) := zkp_tr (zkp_up zkp_S rfl rfl) hpT rfl rfl
    generalize K129_18_S a 1 (a + 1).toNatClampNeg (z_up S 40 a.toNatClampNeg 1) = S1 at *
    generalize K264_18_S a 1 (a + 1).toNatClampNeg (z_up T 119 a.toNatClampNeg 1) = T1 at *
    have hL1 : zLea S1 T1 := zLea_kc rfl hkS (zLea_km rfl hkT (zQ_Lea h))
    have t13 : ∀ i, T1 13 i = T 13 i := fun i => congrFun (hkT.1 13 rfl) i
    have t120 : T1 120 = T 120 := hkT.1 120 rfl
    have t125 : T1 125 = T 125 := hkT.1 125 rfl
    have t117 : T1 117 = T 117 := hkT.1 117 rfl
    have s41 : S1 40 = T1 119 := z1.2.2.2.2.2.2.2.2.2.1
    obtain ⟨w1, w2⟩ := zdl hL1 s41 _ (T 13 1) a z5 (t13 1)
    rw [eS, eT]
    have hkS2 := zkp_tr (l := [40, 44, 46, 47, 49]) (fl := []) (zkp_tr (zkp_S (S := S)) hkS rfl rfl) (p_K54_6_5_2_S (T 13 1) 0 S1) rfl rfl
    have hkT2 := zkp_tr (l := [119, 123, 125, 126, 128]) (fl := []) (zkp_tr (zkp_S (S := T)) hkT rfl rfl) (p_K264_58_S a (K264_18_c2 a 1 (a + 1).toNatClampNeg (z_up T 119 a.toNatClampNeg 1)) 0 T1) rfl rfl
    have hpT2 := p_K264_58_S a (K264_18_c2 a 1 (a + 1).toNatClampNeg (z_up T 119 a.toNatClampNeg 1)) 0 T1
    have hpS2 := p_K54_6_5_2_S (T 13 1) 0 S1
    generalize K54_6_5_2_S (T 13 1) 0 S1 = S2 at *
    generalize K264_58_S a (K264_18_c2 a 1 (a + 1).toNatClampNeg (z_up T 119 a.toNatClampNeg 1)) 0 T1 = T2 at *
    have u119 : T2 119 = T1 119 := hpT2.1 119 rfl
    have u120 : T2 120 = T 120 := (hpT2.1 120 rfl).trans t120
    have u117 : T2 117 = T 117 := (hpT2.1 117 rfl).trans t117
    have u13 : ∀ i, T2 13 i = T 13 i := fun i => congrFun ((hpT2.1 13 rfl).trans (hkT.1 13 rfl)) i
    refine ⟨⟨(zSeal_kc rfl hkS2 (zSeal_km rfl hkT2 (zQ_Seal h))), (zKey_kc rfl hkS2 (zKey_km rfl hkT2 (zQ_Key h))), (zEng_kc rfl hkS2 (zEng_km rfl hkT2 (zQ_Eng h))), (zRul_kc rfl hkS2 (zRul_km rfl hkT2 (zQ_Rul h))), (zPpl_kc rfl hkS2 (zPpl_km rfl hkT2 (zQ_Ppl h))), zTok_kc rfl hpS2 (zTok_km rfl hpT2 z1), w1, ?_, (zSto_kc rfl hkS2 (zSto_km rfl hkT2 (zQ_Sto h))), (zFar_kc rfl hkS2 (zFar_km rfl hkT2 (zQ_Far h))), (zLog_kc rfl hkS2 (zLog_km rfl hkT2 (zQ_Log h))), (zWra_kc rfl hkS2 (zWra_km rfl hkT2 (zQ_Wra h))), (zCas_kc rfl hkS2 (zCas_km rfl hkT2 (zQ_Cas h))), (zCer_kc rfl hkS2 (zCer_km rfl hkT2 (zQ_Cer h))), (zSin_kc rfl hkS2 (zSin_km rfl hkT2 (zQ_Sin h)))⟩, ?_, ?_⟩
    · intro i hi e
      rw [u13] at hi
      obtain ⟨v1, v2⟩ := w2 i (by rw [t13]; exact hi) e
      rw [t125] at v2
      rw [t120] at v1
      refine ⟨by rw [u119, u120]; exact v1, ?_⟩
      rw [u120, u13]
      exact (zQ_LT h i hi v2).2
    · rw [s40, if_pos c0, (show zb (T 119 a.toNatClampNeg = 0) = 1 from if_pos c0)]
      exact z2
    · intro b hb hor i hi e1 e2
      rw [u13] at hi
      rw [u119] at e1
      rw [u117] at e2
      have e3 : T 119 i = 0 := Classical.byContradiction (fun hn => z3 i hn e1)
      have e4 := hb i hi e3 e2
      rcases hor with rfl | hu
      · have : i = b.toNatClampNeg := by omega
        rw [this] at e1
        exact z4 e1
      · exact hu i hi e3 e2
  · have eS : G200 a S = S := by
      unfold G200
      rw [s40, if_neg c0]
      exact zdl_id (zQ_Lea h) hT (zQ_LT h) _
    have e1 : T 119 a.toNatClampNeg = 1 := (hT.2.2.2.2.2.2.2.2.2.2.2.2.2.2.2.2.2.1 a.toNatClampNeg).resolve_left c0
    have eT : G264 a T = T := by
      unfold G264
      rw [(show zb (T 119 a.toNatClampNeg = 0) = 0 from if_neg c0), zup_id T 119 _ 1 e1]
      unfold K264_58_S K264_58 K264_18_c2 K264_18_S K264_18
      rw [if_pos (show (0 : Int32) ≤ 0 by decide)]
      rfl
    rw [eS, eT]
    refine ⟨h, ?_, ?_⟩
    · rw [s40, if_neg c0, (show zb (T 119 a.toNatClampNeg = 0) = 0 from if_neg c0), zup_id T 119 _ 1 e1]
      unfold K264_18_c2 K264_18
      rw [if_pos (show (0 : Int32) ≤ 0 by decide)]
      rfl
    · intro b hb hor i hi k1 k2
      rcases hor with rfl | hu
      · have e4 := hb i hi k1 k2
        have : i = b.toNatClampNeg := by omega
        rw [this] at k1
        exact c0 k1
      · exact hu i hi k1 k2
/-! admission and conclusion of a request (wip/whole/gen/gen83.py) -/
theorem zsn {S T : zS} (h : zSin S T) (a b c d : Int32) : (F101 S = 0) ↔ (K282_6_c5 a b c d 0 1 0 T = 0 ∨ K282_6_c6 a b c d 0 1 0 T = 0) := by
  obtain ⟨e1, e2, -, -, z1, z2⟩ := h
  unfold F101 K282_6_c5 K282_6_c6 K282_6
  rw [zf3, e1, e2]
  simp only [k282_6]
  have a0 := z1 0
  have a1 := z1 1
  have a2 := z1 2
  have b0 := z2 0
  have b1 := z2 1
  have b2 := z2 2
  clear z1 z2 e1 e2
  generalize T 144 0 = x0 at *
  generalize T 144 1 = x1 at *
  generalize T 144 2 = x2 at *
  generalize T 145 0 = y0 at *
  generalize T 145 1 = y1 at *
  generalize T 145 2 = y2 at *
  rcases a0 with rfl | rfl <;> rcases a1 with rfl | rfl <;> rcases a2 with rfl | rfl <;> rcases b0 with rfl | rfl <;> rcases b1 with rfl | rfl <;> rcases b2 with rfl | rfl <;> decide
theorem zin {m a : Int32} (hm : zn 40 m) : ((m - 1) < a) = (m ≤ a) := zt_le (zn_mono hm (by decide))
theorem zin2 {m a : Int32} (hm : zn 40 m) (h : (¬ (a < 0)) ∧ (¬ (m ≤ a))) : 0 ≤ a.toInt ∧ a.toInt < m.toInt ∧ a.toNatClampNeg < m.toNatClampNeg ∧ (a.toNatClampNeg : Int) = a.toInt := by
  obtain ⟨h1, h2⟩ := h
  rw [zk_lt, zlt_0] at h1
  rw [zk_le] at h2
  have e1 := zk_nat (x := a) (by omega)
  have e2 := zk_nat hm.1
  omega
theorem ztell {S T : zS} (h : zSin S T) (h5 : S 5 0 = T 13 45) (hn : zn 40 (T 13 45)) (a b c d k : Int32) (hk : (if (c.toInt = 2) then (1 : Int32) else (if (c.toInt = 4) then (2 : Int32) else (if (c.toInt = 8) then (3 : Int32) else 0))) = k) : zSin (G102 (if ((¬ (a < 0)) ∧ (¬ ((S 5 0) ≤ a))) then (a : Int32) else 0) b c d S) (K283_16_S a b k d (if (0 ≤ d) then (d : Int32) else (60000 + d)) 0 T) := by
  unfold G102 K102_21_S K102_21 K283_16_S K283_16
  rw [hk, h5]
  refine (zfold_rel (I := fun x y => zSin x y ∧ y 13 45 = T 13 45) ⟨h, rfl⟩ (fun j x y hj hI => ?_)).1
  obtain ⟨hS, e13⟩ := hI
  have hS' := hS
  obtain ⟨e1, e2, e3, e4, z1, z2⟩ := hS
  unfold k102_21 k283_16
  rw [e1, e2, e3, e4, e13]
  simp only [zin hn]
  by_cases c0 : y 144 (0 + j) = 0
  · rw [if_pos c0, if_pos c0]; exact ⟨hS', e13⟩
  · rw [if_neg c0, if_neg c0]
    by_cases c1 : y 145 (0 + j) = 0
    · rw [if_pos c1, if_pos c1]
      refine ⟨?_, (zupci rfl).trans e13⟩
      unfold zSin
      simp only [zup1, e1, e2, e3, e4, not_false_eq_true, not_true_eq_false, Nat.reduceEqDiff, reduceIte, true_and, and_true, ite_true, ite_false, Int32.add_assoc]
      exact ⟨z1, z2⟩
    · rw [if_neg c1, if_neg c1]; exact ⟨hS', e13⟩
theorem zcon {n : Nat} {S T : zS} (h : zQ n S T) (a b c d k : Int32) (hk : (if (c.toInt = 2) then (1 : Int32) else (if (c.toInt = 4) then (2 : Int32) else (if (c.toInt = 8) then (3 : Int32) else 0))) = k) (hU : zUm a T) (hd : d = -2 ∨ d = -3 → zUse S T) : zR n (G197 a b c d S) (G283 a b k d T) := by
  have hT := zQ_Tok h
  have hn := hT.2.2.2.2.2.2.2.2.2.2.1
  have h5 : S 5 0 = T 13 45 := hT.1
  have idle : zUse S T → zR n S (if (((¬ (a < 0)) ∧ (¬ (((T 13 45) - 1) < a))) ∧ ((T 119 a.toNatClampNeg) = 0)) then (if ((T 117 a.toNatClampNeg) = 0) then (G264 a T) else T) else T) := by
    intro hu
    have hR := zQ_R h hu
    by_cases g : (((¬ (a < 0)) ∧ (¬ (((T 13 45) - 1) < a))) ∧ ((T 119 a.toNatClampNeg) = 0))
    · rw [if_pos g]
      have g2 := g.1
      rw [zin hn] at g2
      rw [if_neg (hu _ (zin2 hn g2).2.2.1 g.2)]
      exact hR
    · rw [if_neg g]; exact hR
  unfold G197 G283
  by_cases c2 : d = -2
  · simp only [if_pos c2]
    exact idle (hd (Or.inl c2))
  by_cases c3 : d = -3
  · simp only [if_neg c2, if_pos c3]
    exact idle (hd (Or.inr c3))
  simp only [if_neg c2, if_neg c3]
  have hSi := ztell (zQ_Sin h) h5 hn a b c d k hk
  have hpS := p_G102 (if ((¬ (a < 0)) ∧ (¬ ((S 5 0) ≤ a))) then (a : Int32) else 0) b c d S
  have hpT := p_K283_16_S a b k d (if (0 ≤ d) then (d : Int32) else (60000 + d)) 0 T
  generalize G102 (if ((¬ (a < 0)) ∧ (¬ ((S 5 0) ≤ a))) then (a : Int32) else 0) b c d S = S1 at *
  generalize K283_16_S a b k d (if (0 ≤ d) then (d : Int32) else (60000 + d)) 0 T = T1 at *
  have hQ1 : zQ n S1 T1 := ⟨(zSeal_kc rfl hpS (zSeal_km rfl hpT (zQ_Seal h))), (zKey_kc rfl hpS (zKey_km rfl hpT (zQ_Key h))), (zEng_kc rfl hpS (zEng_km rfl hpT (zQ_Eng h))), (zRul_kc rfl hpS (zRul_km rfl hpT (zQ_Rul h))), (zPpl_kc rfl hpS (zPpl_km rfl hpT (zQ_Ppl h))), (zTok_kc rfl hpS (zTok_km rfl hpT (zQ_Tok h))), (zLea_kc rfl hpS (zLea_km rfl hpT (zQ_Lea h))), (zLT_kc rfl hpS (zLT_km rfl hpT (zQ_LT h))), (zSto_kc rfl hpS (zSto_km rfl hpT (zQ_Sto h))), (zFar_kc rfl hpS (zFar_km rfl hpT (zQ_Far h))), (zLog_kc rfl hpS (zLog_km rfl hpT (zQ_Log h))), (zWra_kc rfl hpS (zWra_km rfl hpT (zQ_Wra h))), (zCas_kc rfl hpS (zCas_km rfl hpT (zQ_Cas h))), (zCer_kc rfl hpS (zCer_km rfl hpT (zQ_Cer h))), hSi⟩
  have t45 : T1 13 45 = T 13 45 := congrFun (hpT.1 13 rfl) 45
  have t119 : T1 119 = T 119 := hpT.1 119 rfl
  have t117 : T1 117 = T 117 := hpT.1 117 rfl
  have hT1 := zQ_Tok hQ1
  have s37 : S1 37 = T1 117 := hT1.2.2.2.2.2.2.1
  have s40 : S1 40 = T1 119 := hT1.2.2.2.2.2.2.2.2.2.1
  have hU1 : zUm a T1 := fun j hj e1 e2 => hU j (by rw [← t45]; exact hj) (by rw [← t119]; exact e1) (by rw [← t117]; exact e2)
  have hn1 : zn 40 (T1 13 45) := by rw [t45]; exact hn
  simp only [zin hn1]
  rw [t45, h5, s37]
  by_cases g : (¬ (a < 0)) ∧ (¬ ((T 13 45) ≤ a))
  · have g2 := zin2 hn g
    rw [if_pos g]
    by_cases gu : T1 117 a.toNatClampNeg = 0
    · rw [if_pos gu]
      by_cases gd : T1 119 a.toNatClampNeg = 0
      · rw [if_pos ⟨g, gd⟩, if_pos gu]
        obtain ⟨w1, -, w3⟩ := zdie hQ1 a g2.1 (by rw [t45]; exact g2.2.1)
        exact zQ_R w1 (w3 a hU1 (Or.inl rfl))
      · rw [if_neg (fun q => gd q.2)]
        have eS : G200 a S1 = S1 := by
          unfold G200
          rw [s40, if_neg gd]
          exact zdl_id (zQ_Lea hQ1) hT1 (zQ_LT hQ1) _
        rw [eS]
        refine zQ_R hQ1 (fun j hj e1 e2 => ?_)
        have e3 := hU1 j hj e1 e2
        have e4 : j = a.toNatClampNeg := by omega
        rw [e4] at e1
        exact gd e1
    · rw [if_neg gu]
      have hu1 : zUse S1 T1 := fun j hj e1 e2 => by
        have e3 := hU1 j hj e1 e2
        have e4 : j = a.toNatClampNeg := by omega
        rw [e4] at e2
        exact gu e2
      by_cases gd : ((¬ (a < 0)) ∧ (¬ ((T 13 45) ≤ a))) ∧ T1 119 a.toNatClampNeg = 0
      · rw [if_pos gd, if_neg gu]; exact zQ_R hQ1 hu1
      · rw [if_neg gd]; exact zQ_R hQ1 hu1
  · rw [if_neg g, if_neg (fun q => g q.1)]
    refine zQ_R hQ1 (fun j hj e1 e2 => ?_)
    have e3 := hU1 j hj e1 e2
    rw [t45] at hj
    have e5 := zk_nat hn.1
    apply g
    rw [zk_lt, zlt_0, zk_le]
    omega
theorem zand1 (x : Int32) : x &&& 1 = 0 ∨ x &&& 1 = 1 := by
  have k1 : ∀ i, i < 32 → (1 : Int32).toBitVec.getLsbD i = decide (i = 0) := by decide
  by_cases h : x.toBitVec.getLsbD 0 = true
  · right
    apply zbe
    intro i hi
    rw [Int32.toBitVec_and, BitVec.getLsbD_and, k1 i hi]
    by_cases h0 : i = 0
    · subst h0; rw [h]; rfl
    · simp [h0]
  · left
    apply zbe
    intro i hi
    rw [Int32.toBitVec_and, BitVec.getLsbD_and, k1 i hi, zlsb0 i hi]
    by_cases h0 : i = 0
    · subst h0
      have h2 : x.toBitVec.getLsbD 0 = false := by
        cases hb : x.toBitVec.getLsbD 0 with
        | false => rfl
        | true => exact absurd hb h
      rw [h2]; rfl
    · simp [h0]
theorem zTok_u {S T : zS} (h : zTok S T) (i : Nat) (w : Int32) (hw : -1 ≤ w.toInt ∧ w.toInt ≤ 20) : zTok (z_up S 37 i w) (z_up T 117 i w) := by
  unfold zTok at h ⊢
  obtain ⟨k0, k1, k2, k3, k4, k5, k6, k7, k8, k9, k10, k11, k12, k13, k14, k15, k16, k17, k18, k19⟩ := h
  simp only [zup2, zup1, k0, k1, k2, k3, k4, k5, k6, k7, k8, k9, not_false_eq_true, not_true_eq_false, Nat.reduceEqDiff, reduceIte, true_and, and_true, ite_true, ite_false]
  refine ⟨k10, k11, k12, k13, k14, k15, k16, k17, ?_, k19⟩
  intro j
  split
  · exact hw
  · exact k18 j
theorem zEng_r {S T : zS} (h : zEng S T) (i : Nat) (w : Int32) : zEng (z_up S 19 i w) (z_up T 87 i w) := by
  unfold zEng at h ⊢
  obtain ⟨k0, k1, k2, k3, k4⟩ := h
  simp only [zup1, k0, k1, k2, k3, not_false_eq_true, not_true_eq_false, Nat.reduceEqDiff, reduceIte, true_and, and_true, ite_true, ite_false]
  exact k4
theorem zadm {n : Nat} {S T : zS} (h : zR n S T) (a b c d : Int32) (hc : zx 216 c) : F282 a b c d T = F196 a b c d S ∧ zQ n (G196 a b c d S) (G282 a b c d T) ∧ zUm a (G282 a b c d T) ∧ (F196 a b c d S = 0 ∨ ¬ (0 : Int32) ≤ F196 a b c d S) ∧ ((F196 a b c d S = -2 ∨ F196 a b c d S = -3) → zUse (G196 a b c d S) (G282 a b c d T)) ∧ (F196 a b c d S = 0 → 0 ≤ a.toInt ∧ a.toInt < (T 13 45).toInt ∧ (G282 a b c d T) 119 a.toNatClampNeg = 0) := by
  have hQ := zR_Q h
  have hU := zR_Use h
  have hT := zQ_Tok hQ
  have hn := hT.2.2.2.2.2.2.2.2.2.2.1
  have h5 : S 5 0 = T 13 45 := hT.1
  have s37 : S 37 = T 117 := hT.2.2.2.2.2.2.1
  have s38 : S 38 = T 116 := hT.2.2.2.2.2.2.2.1
  have s40 : S 40 = T 119 := hT.2.2.2.2.2.2.2.2.2.1
  have s6 : S 1 6 = T 13 2 := (zQ_Seal hQ).2.2.2.1
  have hs := zsn (zQ_Sin hQ) a b c d
  by_cases c0 : T 13 2 = 0
  · have e1 : F196 a b c d S = -2 := by unfold F196; rw [s6, if_pos c0]
    have e2 : G196 a b c d S = S := by unfold G196; rw [s6, if_pos c0]
    have e3 : F282 a b c d T = -2 := by unfold F282; rw [if_pos c0, if_pos c0]
    have e4 : G282 a b c d T = T := by unfold G282; rw [if_pos c0]
    rw [e1, e2, e3, e4]
    exact ⟨rfl, hQ, zUm_of hU a, Or.inr (by decide), fun _ => hU, fun e => absurd e (by decide)⟩
  by_cases c1 : F101 S = 0
  rotate_left
  · have k5 : ¬ K282_6_c5 a b c d 0 1 0 T = 0 := fun e => c1 (hs.mpr (Or.inl e))
    have k6 : ¬ K282_6_c6 a b c d 0 1 0 T = 0 := fun e => c1 (hs.mpr (Or.inr e))
    have e1 : F196 a b c d S = -3 := by unfold F196; rw [s6, if_neg c0, if_neg c1]
    have e2 : G196 a b c d S = S := by unfold G196; rw [s6, if_neg c0, if_neg c1]
    have e3 : F282 a b c d T = -3 := by unfold F282; simp only [if_neg c0, if_neg k5, if_neg k6]
    have e4 : G282 a b c d T = T := by unfold G282; simp only [if_neg c0, if_neg k5, if_neg k6]
    rw [e1, e2, e3, e4]
    exact ⟨rfl, hQ, zUm_of hU a, Or.inr (by decide), fun _ => hU, fun e => absurd e (by decide)⟩
  have hk := hs.mp c1
  have hX : ∀ {α : Type} (X Y : α), (if K282_6_c5 a b c d 0 1 0 T = 0 then X else (if K282_6_c6 a b c d 0 1 0 T = 0 then X else Y)) = X := by
    intro α X Y
    by_cases e5 : K282_6_c5 a b c d 0 1 0 T = 0
    · rw [if_pos e5]
    · rw [if_neg e5, if_pos (hk.resolve_left e5)]
  by_cases c2 : (((¬ (a < 0)) ∧ (¬ ((T 13 45) ≤ a))) ∧ (((T 119 a.toNatClampNeg) = 0) ∧ (((zshr (T 116 a.toNatClampNeg) b) &&& 1) = 1)))
  rotate_left
  · have e1 : F196 a b c d S = -4 := by unfold F196; rw [s6, if_neg c0, if_pos c1, h5, s40, s38, if_neg c2]
    have e2 : G196 a b c d S = S := by unfold G196; rw [s6, if_neg c0, if_pos c1, h5, s40, s38, if_neg c2]
    have e34 : F282 a b c d T = -4 ∧ G282 a b c d T = T := by
      unfold F282 G282
      simp only [if_neg c0, hX, zin hn]
      by_cases g : ((¬ (a < 0)) ∧ (¬ ((T 13 45) ≤ a))) ∧ T 119 a.toNatClampNeg = 0
      · rw [if_pos g, if_pos g]
        have g1 : ((zshr (T 116 a.toNatClampNeg) b) &&& 1) = 0 := (zand1 _).resolve_right (fun q => c2 ⟨g.1, g.2, q⟩)
        rw [if_pos g1, if_pos g1]
        exact ⟨rfl, rfl⟩
      · rw [if_neg g, if_neg g]
        exact ⟨rfl, rfl⟩
    rw [e1, e2, e34.1, e34.2]
    exact ⟨rfl, hQ, zUm_of hU a, Or.inr (by decide), fun _ => hU, fun e => absurd e (by decide)⟩
  obtain ⟨g0, g1, g2⟩ := c2
  have gi := zin2 hn g0
  have g3 : ¬ ((zshr (T 116 a.toNatClampNeg) b) &&& 1) = 0 := by rw [g2]; decide
  have gu := hU _ gi.2.2.1 g1
  have hr := hT.2.2.2.2.2.2.2.2.2.2.2.2.2.2.2.2.2.2.1 a.toNatClampNeg
  have hw : -1 ≤ (T 117 a.toNatClampNeg - zb (¬ T 117 a.toNatClampNeg = -1)).toInt ∧ (T 117 a.toNatClampNeg - zb (¬ T 117 a.toNatClampNeg = -1)).toInt ≤ 20 ∧ (if (T 117 a.toNatClampNeg) ≤ 0 then S else (z_up S 37 a.toNatClampNeg ((T 117 a.toNatClampNeg) - 1))) = z_up S 37 a.toNatClampNeg (T 117 a.toNatClampNeg - zb (¬ T 117 a.toNatClampNeg = -1)) := by
    by_cases e : T 117 a.toNatClampNeg = -1
    · rw [(show zb (¬ T 117 a.toNatClampNeg = -1) = 0 from if_neg (fun q => q e)), e]
      refine ⟨by decide, by decide, ?_⟩
      rw [if_pos (by decide)]
      exact (zup_id S 37 _ _ (by rw [s37, e]; decide)).symm
    · rw [(show zb (¬ T 117 a.toNatClampNeg = -1) = 1 from if_pos e)]
      have q1 : (T 117 a.toNatClampNeg).toInt ≠ -1 := fun q => e (zk_eq.mpr q)
      have q2 : (T 117 a.toNatClampNeg).toInt ≠ 0 := fun q => gu (zk_eq.mpr q)
      rw [zk_tsub (by rw [zk_1]; omega) (by rw [zk_1]; omega), zk_1, if_neg (by rw [zk_le, zlt_0]; omega)]
      exact ⟨by omega, by omega, rfl⟩
  generalize hwd : T 117 a.toNatClampNeg - zb (¬ T 117 a.toNatClampNeg = -1) = w at hw
  have hQ1 : zQ n (z_up S 37 a.toNatClampNeg w) (z_up T 117 a.toNatClampNeg w) := ⟨(zSeal_kc rfl (zkp_up (l := [37]) (fl := []) zkp_S rfl rfl) (zSeal_km rfl (zkp_up (l := [117]) (fl := []) zkp_S rfl rfl) (zQ_Seal hQ))), (zKey_kc rfl (zkp_up (l := [37]) (fl := []) zkp_S rfl rfl) (zKey_km rfl (zkp_up (l := [117]) (fl := []) zkp_S rfl rfl) (zQ_Key hQ))), (zEng_kc rfl (zkp_up (l := [37]) (fl := []) zkp_S rfl rfl) (zEng_km rfl (zkp_up (l := [117]) (fl := []) zkp_S rfl rfl) (zQ_Eng hQ))), (zRul_kc rfl (zkp_up (l := [37]) (fl := []) zkp_S rfl rfl) (zRul_km rfl (zkp_up (l := [117]) (fl := []) zkp_S rfl rfl) (zQ_Rul hQ))), (zPpl_kc rfl (zkp_up (l := [37]) (fl := []) zkp_S rfl rfl) (zPpl_km rfl (zkp_up (l := [117]) (fl := []) zkp_S rfl rfl) (zQ_Ppl hQ))), zTok_u hT _ w ⟨hw.1, hw.2.1⟩, (zLea_kc rfl (zkp_up (l := [37]) (fl := []) zkp_S rfl rfl) (zLea_km rfl (zkp_up (l := [117]) (fl := []) zkp_S rfl rfl) (zQ_Lea hQ))), (zLT_kc rfl (zkp_up (l := [37]) (fl := []) zkp_S rfl rfl) (zLT_km rfl (zkp_up (l := [117]) (fl := []) zkp_S rfl rfl) (zQ_LT hQ))), (zSto_kc rfl (zkp_up (l := [37]) (fl := []) zkp_S rfl rfl) (zSto_km rfl (zkp_up (l := [117]) (fl := []) zkp_S rfl rfl) (zQ_Sto hQ))), (zFar_kc rfl (zkp_up (l := [37]) (fl := []) zkp_S rfl rfl) (zFar_km rfl (zkp_up (l := [117]) (fl := []) zkp_S rfl rfl) (zQ_Far hQ))), (zLog_kc rfl (zkp_up (l := [37]) (fl := []) zkp_S rfl rfl) (zLog_km rfl (zkp_up (l := [117]) (fl := []) zkp_S rfl rfl) (zQ_Log hQ))), (zWra_kc rfl (zkp_up (l := [37]) (fl := []) zkp_S rfl rfl) (zWra_km rfl (zkp_up (l := [117]) (fl := []) zkp_S rfl rfl) (zQ_Wra hQ))), (zCas_kc rfl (zkp_up (l := [37]) (fl := []) zkp_S rfl rfl) (zCas_km rfl (zkp_up (l := [117]) (fl := []) zkp_S rfl rfl) (zQ_Cas hQ))), (zCer_kc rfl (zkp_up (l := [37]) (fl := []) zkp_S rfl rfl) (zCer_km rfl (zkp_up (l := [117]) (fl := []) zkp_S rfl rfl) (zQ_Cer hQ))), (zSin_kc rfl (zkp_up (l := [37]) (fl := []) zkp_S rfl rfl) (zSin_km rfl (zkp_up (l := [117]) (fl := []) zkp_S rfl rfl) (zQ_Sin hQ)))⟩
  have hU1 : zUm a (z_up T 117 a.toNatClampNeg w) := by
    intro j hj e1 e2
    rw [show (z_up T 117 a.toNatClampNeg w) 13 45 = T 13 45 from zupci rfl] at hj
    rw [show (z_up T 117 a.toNatClampNeg w) 119 = T 119 from zupc rfl] at e1
    rw [zup2, if_pos rfl] at e2
    by_cases ej : j = a.toNatClampNeg
    · omega
    · rw [if_neg ej] at e2
      exact absurd e2 (hU j hj e1)
  have q18 : (z_up S 37 a.toNatClampNeg w) 18 (c / 36).toNatClampNeg = T 86 (c / 36).toNatClampNeg := (zupci rfl).trans (congrFun (zQ_Eng hQ).2.2.1 _)
  have q19 : (z_up S 37 a.toNatClampNeg w) 19 (c / 36).toNatClampNeg = T 87 (c / 36).toNatClampNeg := (zupci rfl).trans (congrFun (zQ_Eng hQ).2.2.2.1 _)
  by_cases c3 : (T 87 (c / 36).toNatClampNeg) < (T 86 (c / 36).toNatClampNeg)
  · have e1 : F196 a b c d S = (if (((F64 ((z_up (z_up S 37 a.toNatClampNeg w) 19 (c / 36).toNatClampNeg (T 87 (c / 36).toNatClampNeg + 1)) 33 a.toNatClampNeg) ((z_up (z_up S 37 a.toNatClampNeg w) 19 (c / 36).toNatClampNeg (T 87 (c / 36).toNatClampNeg + 1)) 32 a.toNatClampNeg) c (z_up (z_up S 37 a.toNatClampNeg w) 19 (c / 36).toNatClampNeg (T 87 (c / 36).toNatClampNeg + 1))) &&& d) = 0) then ((-6) : Int32) else 0) := by
      unfold F196
      rw [s6, if_neg c0, if_pos c1, h5, s40, s38, if_pos ⟨g0, g1, g2⟩, s37, hw.2.2, q18, q19]
      simp only [if_pos c3]
    have e2 : G196 a b c d S = z_up (z_up S 37 a.toNatClampNeg w) 19 (c / 36).toNatClampNeg (T 87 (c / 36).toNatClampNeg + 1) := by
      unfold G196
      rw [s6, if_neg c0, if_pos c1, h5, s40, s38, if_pos ⟨g0, g1, g2⟩, s37, hw.2.2, q18, q19]
      simp only [if_pos c3]
    have e3 : F282 a b c d T = (if (((F257 a c (z_up (z_up T 117 a.toNatClampNeg w) 87 (c / 36).toNatClampNeg ((T 87 (c / 36).toNatClampNeg) + 1))) &&& d) = 0) then ((-6) : Int32) else 0) := by
      unfold F282
      simp only [if_neg c0, hX, zin hn, if_pos (⟨g0, g1⟩ : ((¬ (a < 0)) ∧ (¬ ((T 13 45) ≤ a))) ∧ T 119 a.toNatClampNeg = 0), if_neg g3, if_pos c3, hwd]
    have e4 : G282 a b c d T = z_up (z_up T 117 a.toNatClampNeg w) 87 (c / 36).toNatClampNeg ((T 87 (c / 36).toNatClampNeg) + 1) := by
      unfold G282
      simp only [if_neg c0, hX, zin hn, if_pos (⟨g0, g1⟩ : ((¬ (a < 0)) ∧ (¬ ((T 13 45) ≤ a))) ∧ T 119 a.toNatClampNeg = 0), if_neg g3, if_pos c3, hwd]
    have hQ2 : zQ n (z_up (z_up S 37 a.toNatClampNeg w) 19 (c / 36).toNatClampNeg (T 87 (c / 36).toNatClampNeg + 1)) (z_up (z_up T 117 a.toNatClampNeg w) 87 (c / 36).toNatClampNeg ((T 87 (c / 36).toNatClampNeg) + 1)) := ⟨(zSeal_kc rfl (zkp_up (l := [19]) (fl := []) zkp_S rfl rfl) (zSeal_km rfl (zkp_up (l := [87]) (fl := []) zkp_S rfl rfl) (zQ_Seal hQ1))), (zKey_kc rfl (zkp_up (l := [19]) (fl := []) zkp_S rfl rfl) (zKey_km rfl (zkp_up (l := [87]) (fl := []) zkp_S rfl rfl) (zQ_Key hQ1))), zEng_r (zQ_Eng hQ1) _ _, (zRul_kc rfl (zkp_up (l := [19]) (fl := []) zkp_S rfl rfl) (zRul_km rfl (zkp_up (l := [87]) (fl := []) zkp_S rfl rfl) (zQ_Rul hQ1))), (zPpl_kc rfl (zkp_up (l := [19]) (fl := []) zkp_S rfl rfl) (zPpl_km rfl (zkp_up (l := [87]) (fl := []) zkp_S rfl rfl) (zQ_Ppl hQ1))), (zTok_kc rfl (zkp_up (l := [19]) (fl := []) zkp_S rfl rfl) (zTok_km rfl (zkp_up (l := [87]) (fl := []) zkp_S rfl rfl) (zQ_Tok hQ1))), (zLea_kc rfl (zkp_up (l := [19]) (fl := []) zkp_S rfl rfl) (zLea_km rfl (zkp_up (l := [87]) (fl := []) zkp_S rfl rfl) (zQ_Lea hQ1))), (zLT_kc rfl (zkp_up (l := [19]) (fl := []) zkp_S rfl rfl) (zLT_km rfl (zkp_up (l := [87]) (fl := []) zkp_S rfl rfl) (zQ_LT hQ1))), (zSto_kc rfl (zkp_up (l := [19]) (fl := []) zkp_S rfl rfl) (zSto_km rfl (zkp_up (l := [87]) (fl := []) zkp_S rfl rfl) (zQ_Sto hQ1))), (zFar_kc rfl (zkp_up (l := [19]) (fl := []) zkp_S rfl rfl) (zFar_km rfl (zkp_up (l := [87]) (fl := []) zkp_S rfl rfl) (zQ_Far hQ1))), (zLog_kc rfl (zkp_up (l := [19]) (fl := []) zkp_S rfl rfl) (zLog_km rfl (zkp_up (l := [87]) (fl := []) zkp_S rfl rfl) (zQ_Log hQ1))), (zWra_kc rfl (zkp_up (l := [19]) (fl := []) zkp_S rfl rfl) (zWra_km rfl (zkp_up (l := [87]) (fl := []) zkp_S rfl rfl) (zQ_Wra hQ1))), (zCas_kc rfl (zkp_up (l := [19]) (fl := []) zkp_S rfl rfl) (zCas_km rfl (zkp_up (l := [87]) (fl := []) zkp_S rfl rfl) (zQ_Cas hQ1))), (zCer_kc rfl (zkp_up (l := [19]) (fl := []) zkp_S rfl rfl) (zCer_km rfl (zkp_up (l := [87]) (fl := []) zkp_S rfl rfl) (zQ_Cer hQ1))), (zSin_kc rfl (zkp_up (l := [19]) (fl := []) zkp_S rfl rfl) (zSin_km rfl (zkp_up (l := [87]) (fl := []) zkp_S rfl rfl) (zQ_Sin hQ1)))⟩
    have hU2 : zUm a (z_up (z_up T 117 a.toNatClampNeg w) 87 (c / 36).toNatClampNeg ((T 87 (c / 36).toNatClampNeg) + 1)) := by
      intro j hj k1 k2
      rw [zupci rfl] at hj k1 k2
      exact hU1 j hj k1 k2
    have e119 : (z_up (z_up T 117 a.toNatClampNeg w) 87 (c / 36).toNatClampNeg ((T 87 (c / 36).toNatClampNeg) + 1)) 119 a.toNatClampNeg = 0 := (zupci rfl).trans ((zupci rfl).trans g1)
    rw [e1, e2, e3, e4]
    generalize z_up (z_up S 37 a.toNatClampNeg w) 19 (c / 36).toNatClampNeg (T 87 (c / 36).toNatClampNeg + 1) = S2 at *
    generalize z_up (z_up T 117 a.toNatClampNeg w) 87 (c / 36).toNatClampNeg ((T 87 (c / 36).toNatClampNeg) + 1) = T2 at *
    have hT2 := zQ_Tok hQ2
    have hri := zrights (zQ_Rul hQ2) (zQ_Ppl hQ2) hT2.2.2.2.1 hT2.2.2.2.2.1 a c (hT2.2.2.2.2.2.2.2.2.2.2.2.2.2.2.1 a.toNatClampNeg)
    rw [hri]
    by_cases c4 : (F64 (S2 33 a.toNatClampNeg) (S2 32 a.toNatClampNeg) c S2 &&& d) = 0
    · rw [if_pos c4]
      exact ⟨rfl, hQ2, hU2, Or.inr (by decide), fun e => by rcases e with e | e <;> exact absurd e (by decide), fun e => absurd e (by decide)⟩
    · rw [if_neg c4]
      exact ⟨rfl, hQ2, hU2, Or.inl rfl, fun e => by rcases e with e | e <;> exact absurd e (by decide), fun _ => ⟨gi.1, gi.2.1, e119⟩⟩
  · have e1 : F196 a b c d S = -5 := by
      unfold F196
      rw [s6, if_neg c0, if_pos c1, h5, s40, s38, if_pos ⟨g0, g1, g2⟩, s37, hw.2.2, q18, q19]
      simp only [if_neg c3]
    have e2 : G196 a b c d S = z_up S 37 a.toNatClampNeg w := by
      unfold G196
      rw [s6, if_neg c0, if_pos c1, h5, s40, s38, if_pos ⟨g0, g1, g2⟩, s37, hw.2.2, q18, q19]
      simp only [if_neg c3]
    have e3 : F282 a b c d T = -5 := by
      unfold F282
      simp only [if_neg c0, hX, zin hn, if_pos (⟨g0, g1⟩ : ((¬ (a < 0)) ∧ (¬ ((T 13 45) ≤ a))) ∧ T 119 a.toNatClampNeg = 0), if_neg g3, if_neg c3]
    have e4 : G282 a b c d T = z_up T 117 a.toNatClampNeg w := by
      unfold G282
      simp only [if_neg c0, hX, zin hn, if_pos (⟨g0, g1⟩ : ((¬ (a < 0)) ∧ (¬ ((T 13 45) ≤ a))) ∧ T 119 a.toNatClampNeg = 0), if_neg g3, if_neg c3, hwd]
    rw [e1, e2, e3, e4]
    exact ⟨rfl, hQ1, hU1, Or.inr (by decide), fun e => by rcases e with e | e <;> exact absurd e (by decide), fun e => absurd e (by decide)⟩
/-! the own parts of requests: reading, cases (wip/whole/gen/gen84.py) -/
theorem z107 {S T : zS} (e51 : S 51 = T 88) (b c : Int32) (hb : zx 216 b) : F107 b c S = (if ((¬ ((if (c = 0) then ((T 88 b.toNatClampNeg) : Int32) else c) < 1)) ∧ ((¬ ((T 88 b.toNatClampNeg) < (if (c = 0) then ((T 88 b.toNatClampNeg) : Int32) else c))) ∧ (¬ ((if (c = 0) then ((T 88 b.toNatClampNeg) : Int32) else c) ≤ ((T 88 b.toNatClampNeg) - 4))))) then ((4 * b) + (zrem (if (c = 0) then ((T 88 b.toNatClampNeg) : Int32) else c) 4)) else (-1)) ∧ (((¬ ((if (c = 0) then ((T 88 b.toNatClampNeg) : Int32) else c) < 1)) ∧ ((¬ ((T 88 b.toNatClampNeg) < (if (c = 0) then ((T 88 b.toNatClampNeg) : Int32) else c))) ∧ (¬ ((if (c = 0) then ((T 88 b.toNatClampNeg) : Int32) else c) ≤ ((T 88 b.toNatClampNeg) - 4))))) → zx 864 ((4 * b) + (zrem (if (c = 0) then ((T 88 b.toNatClampNeg) : Int32) else c) 4)) ∧ 1 ≤ (if (c = 0) then ((T 88 b.toNatClampNeg) : Int32) else c).toInt) := by
  unfold F107
  rw [e51]
  generalize (if (c = 0) then ((T 88 b.toNatClampNeg) : Int32) else c) = v
  have hv0 : (¬ v < 1) → 1 ≤ v.toInt := fun g => by rw [zk_lt, zlt_1] at g; omega
  refine ⟨?_, fun g => ⟨zx_slot' hb (zn_rem4 (by have := hv0 g.1; omega)), hv0 g.1⟩⟩
  by_cases g : ((¬ (v < 1)) ∧ ((¬ ((T 88 b.toNatClampNeg) < v)) ∧ (¬ (v ≤ ((T 88 b.toNatClampNeg) - 4)))))
  · rw [if_pos g, if_pos g, zfm_4 S (by have := hv0 g.1; omega), Int32.mul_comm]
  · rw [if_neg g, if_neg g]
theorem zx_m1 {n : Nat} {x : Int32} (h : zx n x) : ¬ x = -1 := by
  intro e
  rw [e, zx_iff] at h
  exact absurd h.1 (by decide)
theorem zn_m {n : Nat} {x c : Int32} (h : zn n x) (hc : c.toInt < 0) : ¬ x = c := by
  intro e
  rw [e] at h
  unfold zn at h
  omega
theorem z288 {n : Nat} {S T : zS} (h : zQ n S T) (b c : Int32) (hb : zx 216 b) : F288 b c T = (if ((S 16 (b / 36).toNatClampNeg) = 0) then ((F110 b c (S 2 3) S) : Int32) else (-13)) ∧ ¬ F288 b c T = -2 ∧ ¬ F288 b c T = -3 := by
  have hS := zQ_Sto h
  obtain ⟨e51, e53, e54, e52, hv, hnum, hst⟩ := hS
  unfold F288 F110
  rw [(zQ_Eng h).1, (zQ_Key h).2.2.2.1]
  by_cases c0 : T 84 (b / 36).toNatClampNeg = 0
  · rw [if_pos c0, if_pos c0]
    obtain ⟨k1, k2⟩ := z107 e51 b c hb
    generalize (if (c = 0) then ((T 88 b.toNatClampNeg) : Int32) else c) = v at k1 k2 ⊢
    by_cases g : ((¬ (v < 1)) ∧ ((¬ ((T 88 b.toNatClampNeg) < v)) ∧ (¬ (v ≤ ((T 88 b.toNatClampNeg) - 4)))))
    · rw [if_pos g] at k1 ⊢
      rw [k1, if_neg (zx_m1 (k2 g).1), e54, e53]
      by_cases c1 : T 91 ((4 * b) + (zrem v 4)).toNatClampNeg = 0
      · rw [if_pos c1, if_pos c1, e52 _ (by rw [c1]; decide)]
        refine ⟨rfl, ?_, ?_⟩
        · split
          · exact zn_m (hnum _) (by decide)
          · decide
        · split
          · exact zn_m (hnum _) (by decide)
          · decide
      · rw [if_neg c1, if_neg c1]
        exact ⟨rfl, by decide, by decide⟩
    · rw [if_neg g] at k1 ⊢
      rw [k1, if_pos rfl]
      exact ⟨rfl, by decide, by decide⟩
  · rw [if_neg c0, if_neg c0]
    exact ⟨rfl, by decide, by decide⟩
theorem zri {n : Nat} {S T : zS} (h : zQ n S T) (a c : Int32) : F257 a c T = F64 (S 33 a.toNatClampNeg) (S 32 a.toNatClampNeg) c S := by
  have hT := zQ_Tok h
  exact zrights (zQ_Rul h) (zQ_Ppl h) hT.2.2.2.1 hT.2.2.2.2.1 a c (hT.2.2.2.2.2.2.2.2.2.2.2.2.2.2.1 a.toNatClampNeg)
theorem zCas_p {S T : zS} (h : zCas S T) (a c d w : Int32) (hlt : T 13 72 < 20) (ha : 0 ≤ a.toInt ∧ a.toInt < (T 13 45).toInt) (hc : zx 216 c) (hd : zn 9999 d) : zCas (z_up (z_up (z_up (z_up (z_up S 66 (T 13 72).toNatClampNeg a) 67 (T 13 72).toNatClampNeg c) 68 (T 13 72).toNatClampNeg d) 69 (T 13 72).toNatClampNeg w) 10 4 ((T 13 72) + 1)) (z_up (z_up (z_up (z_up (z_up (z_up (z_up T 133 (T 13 72).toNatClampNeg a) 134 (T 13 72).toNatClampNeg c) 135 (T 13 72).toNatClampNeg d) 136 (T 13 72).toNatClampNeg w) 137 (T 13 72).toNatClampNeg 0) 138 (T 13 72).toNatClampNeg 0) 13 72 ((T 13 72) + 1)) := by
  unfold zCas at h ⊢
  obtain ⟨h0, h1, h2, h3, h4, h5, h6, h7, h8, h9, h10, h11, h12, h13⟩ := h
  have u7 : upd (T 137) (T 13 72).toNatClampNeg 0 = T 137 := zupd_s _ _ _ (h8 _ (Nat.le_refl _)).1
  have u8 : upd (T 138) (T 13 72).toNatClampNeg 0 = T 138 := zupd_s _ _ _ (h8 _ (Nat.le_refl _)).2
  rw [zk_lt, zlt_20] at hlt
  have e1 : (T 13 72 + 1).toInt = (T 13 72).toInt + 1 := by
    unfold zn at h7
    rw [zk_tadd (by rw [zk_1]; omega) (by rw [zk_1]; omega), zk_1]
  have e2 := zk_nat h7.1
  have e3 := zk_nat (x := T 13 72 + 1) (by have := h7.1; omega)
  simp only [zup2, zup1, h0, h1, h2, h3, h4, h5, h6, u7, u8, not_false_eq_true, not_true_eq_false, Nat.reduceEqDiff, reduceIte, true_and, and_true, ite_true, ite_false]
  refine ⟨?_, ?_, ?_, ?_, ?_, h12, h13⟩
  · have := h7.1; unfold zn; omega
  · intro j hj
    exact h8 j (by omega)
  · intro j hj
    by_cases ej : j = (T 13 72).toNatClampNeg
    · rw [if_pos ej]; exact ha
    · rw [if_neg ej]; exact h9 j (by omega)
  · intro j hj
    rw [upd_r]
    split
    · exact hc
    · exact h10 j hj
  · intro j hj
    split
    · exact hd
    · exact h11 j hj
theorem zrd {n : Nat} {S T : zS} (h : zQ n S T) (a c d : Int32) (hc : zx 216 c) (hd : zn 9999 d) (ha : 0 ≤ a.toInt ∧ a.toInt < (T 13 45).toInt) : F289 a c d T = F202 a c d S ∧ zQ n (G202 a c d S) (G289 a c d T) ∧ ¬ F202 a c d S = -2 ∧ ¬ F202 a c d S = -3 := by
  obtain ⟨k1, k2, k3⟩ := z288 h c d hc
  have hri := zri h a c
  have hC := zQ_Cas h
  have e10 : S 10 4 = T 13 72 := hC.1
  have e20 := zeq_top hC.2.2.2.2.2.2.2.1 zlt_20
  have key : F289 a c d T = F202 a c d S ∧ zCas (G202 a c d S) (G289 a c d T) ∧ ¬ F202 a c d S = -2 ∧ ¬ F202 a c d S = -3 := by
    unfold F289 F202 G202 G289 G32
    rw [← k1, ← hri, e10]
    simp only [e20]
    generalize F288 c d T = v at k2 k3 ⊢
    generalize F257 a c T = w
    by_cases c0 : v < 0
    · simp only [if_pos c0]; exact ⟨trivial, hC, k2, k3⟩
    by_cases c1 : w / 16 = 0
    · simp only [if_neg c0, if_pos c1]; exact ⟨trivial, hC, k2, k3⟩
    by_cases c2 : T 13 72 < 20
    · simp only [if_neg c0, if_neg c1, if_pos c2, not_true_eq_false, not_false_eq_true, c2, if_false, if_true]
      exact ⟨trivial, zCas_p hC a c d _ c2 ha hc hd, by decide, by decide⟩
    · simp only [if_neg c0, if_neg c1, if_neg c2, not_true_eq_false, not_false_eq_true, c2, if_false, if_true]
      exact ⟨trivial, hC, by decide, by decide⟩
  exact ⟨key.1, ⟨(zSeal_kc rfl (p_G202 a c d S) (zSeal_km rfl (p_G289 a c d T) (zQ_Seal h))), (zKey_kc rfl (p_G202 a c d S) (zKey_km rfl (p_G289 a c d T) (zQ_Key h))), (zEng_kc rfl (p_G202 a c d S) (zEng_km rfl (p_G289 a c d T) (zQ_Eng h))), (zRul_kc rfl (p_G202 a c d S) (zRul_km rfl (p_G289 a c d T) (zQ_Rul h))), (zPpl_kc rfl (p_G202 a c d S) (zPpl_km rfl (p_G289 a c d T) (zQ_Ppl h))), (zTok_kc rfl (p_G202 a c d S) (zTok_km rfl (p_G289 a c d T) (zQ_Tok h))), (zLea_kc rfl (p_G202 a c d S) (zLea_km rfl (p_G289 a c d T) (zQ_Lea h))), (zLT_kc rfl (p_G202 a c d S) (zLT_km rfl (p_G289 a c d T) (zQ_LT h))), (zSto_kc rfl (p_G202 a c d S) (zSto_km rfl (p_G289 a c d T) (zQ_Sto h))), (zFar_kc rfl (p_G202 a c d S) (zFar_km rfl (p_G289 a c d T) (zQ_Far h))), (zLog_kc rfl (p_G202 a c d S) (zLog_km rfl (p_G289 a c d T) (zQ_Log h))), (zWra_kc rfl (p_G202 a c d S) (zWra_km rfl (p_G289 a c d T) (zQ_Wra h))), key.2.1, (zCer_kc rfl (p_G202 a c d S) (zCer_km rfl (p_G289 a c d T) (zQ_Cer h))), (zSin_kc rfl (p_G202 a c d S) (zSin_km rfl (p_G289 a c d T) (zQ_Sin h)))⟩, key.2.2⟩
/-- a request: admission, its own part, conclusion -/
theorem zreq {n m : Nat} {S T GS GT : zS} {FS FT : Int32} (h : zR n S T) (hm : ∀ {A B : zS}, zQ n A B → zQ m A B) (a b c d k : Int32) (hc : zx 216 c) (hk : (if (d.toInt = 2) then (1 : Int32) else (if (d.toInt = 4) then (2 : Int32) else (if (d.toInt = 8) then (3 : Int32) else 0))) = k) (ho : zQ n (G196 a b c d S) (G282 a b c d T) → 0 ≤ a.toInt → a.toInt < (T 13 45).toInt → (G282 a b c d T) 119 a.toNatClampNeg = 0 → FT = FS ∧ zQ m GS GT ∧ ¬ FS = -2 ∧ ¬ FS = -3) (h13 : GT 13 45 = (G282 a b c d T) 13 45) (h119 : GT 119 = (G282 a b c d T) 119) (h117 : GT 117 = (G282 a b c d T) 117) :
    (if (0 ≤ F282 a b c d T) then (FT : Int32) else F282 a b c d T) = (if (F196 a b c d S = 0) then (FS : Int32) else F196 a b c d S) ∧ zR m (G197 a c d (if (F196 a b c d S = 0) then (FS : Int32) else F196 a b c d S) (if (F196 a b c d S = 0) then GS else G196 a b c d S)) (G283 a c k (if (0 ≤ F282 a b c d T) then (FT : Int32) else F282 a b c d T) (if (0 ≤ F282 a b c d T) then GT else G282 a b c d T)) := by
  obtain ⟨z1, z2, z3, z4, z5, z6⟩ := zadm h a b c d hc
  rw [z1]
  by_cases c0 : F196 a b c d S = 0
  · have c1 : (0 : Int32) ≤ F196 a b c d S := by rw [c0]; decide
    simp only [if_pos c0, if_pos c1]
    obtain ⟨q1, q2, q3⟩ := z6 c0
    obtain ⟨w1, w2, w3, w4⟩ := ho z2 q1 q2 q3
    rw [w1]
    refine ⟨rfl, zcon w2 a c d FS k hk ?_ (fun e => ?_)⟩
    · intro j hj e1 e2
      exact z3 j (by rw [← h13]; exact hj) (by rw [← h119]; exact e1) (by rw [← h117]; exact e2)
    · rcases e with e | e
      · exact absurd e w3
      · exact absurd e w4
  · have c1 : ¬ (0 : Int32) ≤ F196 a b c d S := z4.resolve_left c0
    simp only [if_neg c0, if_neg c1]
    exact ⟨trivial, zcon (hm z2) a c d _ k hk z3 z5⟩
/-! the own parts of requests: credentials, certificates (wip/whole/gen/gen85.py) -/
theorem zx_d36 {b : Int32} (h : zx 216 b) : zx 6 (b / 36) := by
  rw [zx_iff] at h ⊢
  have e := zdiv_ti (x := b) (y := 36) (by decide) h.1
  rw [show (36 : Int32).toInt = 36 from rfl] at e
  omega
theorem zLea_cr {S T : zS} (h : zLea S T) (i : Nat) (x y : Int32) : zLea (z_up (z_up S 49 i x) 50 i y) (z_up (z_up T 128 i x) 129 i y) := by
  unfold zLea at h ⊢
  obtain ⟨k0, k1, k2, k3, k4, k5, k6, k7, k8, k9, k10, k11, k12, k13, k14, k15, k16, k17, k18⟩ := h
  simp only [zup2, zup1, k0, k1, k2, k3, k4, k5, k6, k7, k8, k9, k10, not_false_eq_true, not_true_eq_false, Nat.reduceEqDiff, reduceIte, true_and, and_true, ite_true, ite_false]
  exact ⟨k11, k12, k13, k14, k15, k16, k17, k18⟩
theorem zLea_p {S T : zS} (h : zLea S T) (a b c e l : Int32) (hlt : T 13 57 < 40) (ha : zx 40 a) (hb : zx 216 b) (hc : zx 3 c) : zLea (z_up (z_up (z_up (z_up (z_up (z_up (z_up (z_up S 41 (T 13 57).toNatClampNeg a) 42 (T 13 57).toNatClampNeg b) 43 (T 13 57).toNatClampNeg c) 46 (T 13 57).toNatClampNeg 0) 47 (T 13 57).toNatClampNeg 0) 6 0 ((T 13 57) + 1)) 44 (T 13 57).toNatClampNeg e) 45 (T 13 57).toNatClampNeg l) (z_up (z_up (z_up (z_up (z_up (z_up (z_up T 120 (T 13 57).toNatClampNeg a) 121 (T 13 57).toNatClampNeg b) 122 (T 13 57).toNatClampNeg c) 124 (T 13 57).toNatClampNeg l) 123 (T 13 57).toNatClampNeg e) 125 (T 13 57).toNatClampNeg 0) 13 57 ((T 13 57) + 1)) := by
  unfold zLea at h ⊢
  obtain ⟨k0, k1, k2, k3, k4, k5, k6, k7, k8, k9, k10, k11, k12, k13, k14, k15, k16, k17, k18⟩ := h
  have u : upd (T 126) (T 13 57).toNatClampNeg 0 = T 126 := zupd_s _ _ _ (k18 _ (Nat.le_refl _))
  have u0 := k18 _ (Nat.le_refl _)
  rw [zk_lt, zlt_40] at hlt
  have e1 : (T 13 57 + 1).toInt = (T 13 57).toInt + 1 := by
    unfold zn at k11
    rw [zk_tadd (by rw [zk_1]; omega) (by rw [zk_1]; omega), zk_1]
  have e2 := zk_nat k11.1
  have e3 := zk_nat (x := T 13 57 + 1) (by have := k11.1; omega)
  simp only [zup2, zup1, k0, k1, k2, k3, k4, k5, k6, k7, k8, k9, k10, u, not_false_eq_true, not_true_eq_false, Nat.reduceEqDiff, reduceIte, true_and, and_true, ite_true, ite_false]
  refine ⟨?_, ?_, ?_, ?_, ?_, ?_, k17, ?_⟩
  · have := k11.1; unfold zn; omega
  · intro j hj
    rw [upd_r]
    split
    · exact ha
    · exact k12 j hj
  · intro j hj
    rw [upd_r]
    split
    · exact hb
    · exact k13 j hj
  · intro j hj
    rw [upd_r]
    split
    · exact hc
    · exact k14 j hj
  · intro j
    split
    · rename_i ej; rw [ej]; exact fun _ => u0
    · exact k15 j
  · intro j
    split
    · intro e9; exact absurd e9 (by decide)
    · exact k16 j
  · intro j hj
    exact k18 j (by omega)
theorem zis {n : Nat} {S T : zS} (h : zQ n S T) (a b c d : Int32) (hb : zx 216 b) (ha : 0 ≤ a.toInt) (hlt : a.toInt < (T 13 45).toInt) (hal : T 119 a.toNatClampNeg = 0) : F296 a b c d T = F205 a b c d S ∧ zQ n (G205 a b c d S) (G296 a b c d T) ∧ ¬ F205 a b c d S = -2 ∧ ¬ F205 a b c d S = -3 := by
  have hL := zQ_Lea h
  have hT := zQ_Tok h
  have hE := zQ_Eng h
  have hLT := zQ_LT h
  have e6 : S 6 0 = T 13 57 := hL.1
  have s48 : S 48 = T 127 := hL.2.2.2.2.2.2.2.2.1
  have s49 : S 49 = T 128 := hL.2.2.2.2.2.2.2.2.2.1
  have s50 : S 50 = T 129 := hL.2.2.2.2.2.2.2.2.2.2.1
  have hn := hL.2.2.2.2.2.2.2.2.2.2.2.1
  have s34 : S 34 = T 113 := hT.2.2.2.2.2.1
  have s11 : S 0 11 = T 13 1 := (zQ_Key h).2.2.2.2.2.2.1
  have hx6 := zx_d36 hb
  have hx6' := zk_nat ((zx_iff.mp hx6).1)
  have hsys : zx 3 (T 85 (b / 36).toNatClampNeg) := hE.2.2.2.2 _ (by have := (zx_iff.mp hx6).2; omega)
  have hway := hL.2.2.2.2.2.2.2.2.2.2.2.2.2.2.2.2.2.1 (T 85 (b / 36).toNatClampNeg).toNatClampNeg (by have := zx_iff.mp hsys; have := zk_nat this.1; omega)
  have hax : zx 40 a := by rw [zx_iff]; have := hT.2.2.2.2.2.2.2.2.2.2.1.2; omega
  have e40 := zeq_top hn zlt_40
  have key : F296 a b c d T = F205 a b c d S ∧ zLea (G205 a b c d S) (G296 a b c d T) ∧ zLT (G205 a b c d S) (G296 a b c d T) ∧ ¬ F205 a b c d S = -2 ∧ ¬ F205 a b c d S = -3 := by
    unfold F296 F205 G205 G296
    rw [hE.1, hE.2.1, e6]
    simp only [e40]
    by_cases c0 : T 84 (b / 36).toNatClampNeg = 1
    rotate_left
    · simp only [if_neg c0]; exact ⟨trivial, hL, hLT, by decide, by decide⟩
    by_cases c1 : T 13 57 < 40
    rotate_left
    · simp only [if_pos c0, c1, not_false_eq_true, if_true]; exact ⟨trivial, hL, hLT, by decide, by decide⟩
    simp only [if_pos c0, c1, not_true_eq_false, if_false]
    generalize hs : T 85 (b / 36).toNatClampNeg = s at *
    rw [s48]
    have eG : G49 s S = z_up (z_up S 49 s.toNatClampNeg ((T 128 s.toNatClampNeg) + (zb (¬ ((T 127 s.toNatClampNeg) = 1))))) 50 s.toNatClampNeg ((T 129 s.toNatClampNeg) + (zb ((T 127 s.toNatClampNeg) = 2))) := by
      unfold G49
      rw [s48]
      by_cases w1 : T 127 s.toNatClampNeg = 1
      · rw [if_pos w1, (show zb (¬ ((T 127 s.toNatClampNeg) = 1)) = 0 from if_neg (fun q => q w1)), (show zb ((T 127 s.toNatClampNeg) = 2) = 0 from if_neg (by rw [w1]; decide)), Int32.add_zero, Int32.add_zero, zup_id S 49 _ _ (congrFun s49 _), zup_id S 50 _ _ (congrFun s50 _)]
      · rw [if_neg w1, (show zb (¬ ((T 127 s.toNatClampNeg) = 1)) = 1 from if_pos w1)]
        by_cases w2 : T 127 s.toNatClampNeg = 2
        · rw [if_pos w2, (show zb ((T 127 s.toNatClampNeg) = 2) = 1 from if_pos w2), s49, s50]
        · rw [if_neg w2, (show zb ((T 127 s.toNatClampNeg) = 2) = 0 from if_neg w2), Int32.add_zero, s49]
          exact (zup_id _ 50 _ _ ((zupci rfl).trans (congrFun s50 _))).symm
    have hL1 := zLea_cr hL s.toNatClampNeg ((T 128 s.toNatClampNeg) + (zb (¬ ((T 127 s.toNatClampNeg) = 1)))) ((T 129 s.toNatClampNeg) + (zb ((T 127 s.toNatClampNeg) = 2)))
    rw [eG]
    by_cases w0 : T 127 s.toNatClampNeg = 0
    · have w12 : ((¬ ((T 127 s.toNatClampNeg) = 1)) ∧ (¬ ((T 127 s.toNatClampNeg) = 2))) := by rw [w0]; exact ⟨by decide, by decide⟩
      simp only [if_pos w0, if_pos w12]
      unfold G50
      have q6 : (z_up (z_up S 49 s.toNatClampNeg ((T 128 s.toNatClampNeg) + (zb (¬ ((T 127 s.toNatClampNeg) = 1))))) 50 s.toNatClampNeg ((T 129 s.toNatClampNeg) + (zb ((T 127 s.toNatClampNeg) = 2)))) 6 0 = T 13 57 := (zupci rfl).trans ((zupci rfl).trans e6)
      have q57 : (z_up (z_up T 128 s.toNatClampNeg ((T 128 s.toNatClampNeg) + (zb (¬ ((T 127 s.toNatClampNeg) = 1))))) 129 s.toNatClampNeg ((T 129 s.toNatClampNeg) + (zb ((T 127 s.toNatClampNeg) = 2)))) 13 57 = T 13 57 := (zupci rfl).trans (zupci rfl)
      have q11 : (z_up (z_up S 49 s.toNatClampNeg ((T 128 s.toNatClampNeg) + (zb (¬ ((T 127 s.toNatClampNeg) = 1))))) 50 s.toNatClampNeg ((T 129 s.toNatClampNeg) + (zb ((T 127 s.toNatClampNeg) = 2)))) 0 11 = T 13 1 := (zupci rfl).trans ((zupci rfl).trans s11)
      have q34 : (z_up (z_up S 49 s.toNatClampNeg ((T 128 s.toNatClampNeg) + (zb (¬ ((T 127 s.toNatClampNeg) = 1))))) 50 s.toNatClampNeg ((T 129 s.toNatClampNeg) + (zb ((T 127 s.toNatClampNeg) = 2)))) 34 a.toNatClampNeg = T 113 a.toNatClampNeg := (zupci rfl).trans ((zupci rfl).trans (congrFun s34 _))
      have t119 : (z_up (z_up T 128 s.toNatClampNeg ((T 128 s.toNatClampNeg) + (zb (¬ ((T 127 s.toNatClampNeg) = 1))))) 129 s.toNatClampNeg ((T 129 s.toNatClampNeg) + (zb ((T 127 s.toNatClampNeg) = 2)))) 119 = T 119 := (zupc rfl).trans (zupc rfl)
      have t45 : (z_up (z_up T 128 s.toNatClampNeg ((T 128 s.toNatClampNeg) + (zb (¬ ((T 127 s.toNatClampNeg) = 1))))) 129 s.toNatClampNeg ((T 129 s.toNatClampNeg) + (zb ((T 127 s.toNatClampNeg) = 2)))) 13 45 = T 13 45 := (zupci rfl).trans (zupci rfl)
      have t120 : (z_up (z_up T 128 s.toNatClampNeg ((T 128 s.toNatClampNeg) + (zb (¬ ((T 127 s.toNatClampNeg) = 1))))) 129 s.toNatClampNeg ((T 129 s.toNatClampNeg) + (zb ((T 127 s.toNatClampNeg) = 2)))) 120 = T 120 := (zupc rfl).trans (zupc rfl)
      have t125 : (z_up (z_up T 128 s.toNatClampNeg ((T 128 s.toNatClampNeg) + (zb (¬ ((T 127 s.toNatClampNeg) = 1))))) 129 s.toNatClampNeg ((T 129 s.toNatClampNeg) + (zb ((T 127 s.toNatClampNeg) = 2)))) 125 = T 125 := (zupc rfl).trans (zupc rfl)
      generalize z_up (z_up S 49 s.toNatClampNeg ((T 128 s.toNatClampNeg) + (zb (¬ ((T 127 s.toNatClampNeg) = 1))))) 50 s.toNatClampNeg ((T 129 s.toNatClampNeg) + (zb ((T 127 s.toNatClampNeg) = 2))) = S1 at *
      generalize z_up (z_up T 128 s.toNatClampNeg ((T 128 s.toNatClampNeg) + (zb (¬ ((T 127 s.toNatClampNeg) = 1))))) 129 s.toNatClampNeg ((T 129 s.toNatClampNeg) + (zb ((T 127 s.toNatClampNeg) = 2))) = T1 at *
      have r11 : (z_up (z_up (z_up (z_up (z_up (z_up S1 41 (S1 6 0).toNatClampNeg a) 42 (S1 6 0).toNatClampNeg b) 43 (S1 6 0).toNatClampNeg s) 46 (S1 6 0).toNatClampNeg 0) 47 (S1 6 0).toNatClampNeg 0) 6 0 ((S1 6 0) + 1)) 0 11 = T 13 1 := by simp only [zup2, q11, Nat.reduceEqDiff, reduceIte, ite_false]
      have r34 : (z_up (z_up (z_up (z_up (z_up (z_up S1 41 (S1 6 0).toNatClampNeg a) 42 (S1 6 0).toNatClampNeg b) 43 (S1 6 0).toNatClampNeg s) 46 (S1 6 0).toNatClampNeg 0) 47 (S1 6 0).toNatClampNeg 0) 6 0 ((S1 6 0) + 1)) 34 a.toNatClampNeg = T 113 a.toNatClampNeg := by simp only [zup2, q34, Nat.reduceEqDiff, reduceIte, ite_false]
      rw [r11, r34, q6, zmin_i]
      have hLp := zLea_p hL1 a b s (if ((T 113 a.toNatClampNeg) ≤ ((T 13 1) + c)) then ((T 113 a.toNatClampNeg) : Int32) else ((T 13 1) + c)) ((T 13 1) + d) (by rw [q57]; exact c1) hax hb hsys
      rw [q57] at hLp
      refine ⟨Int32.add_sub_cancel _ _, hLp, ?_, zn_m hn (by decide), zn_m hn (by decide)⟩
      have hc1 := c1
      rw [zk_lt, zlt_40] at hc1
      have g1 : (T 13 57 + 1).toInt = (T 13 57).toInt + 1 := by
        have := hn.1
        rw [zk_tadd (by rw [zk_1]; omega) (by rw [zk_1]; omega), zk_1]
      have g2 := zk_nat hn.1
      have g3 := zk_nat (x := T 13 57 + 1) (by have := hn.1; omega)
      unfold zLT
      simp only [zup2, zup1, t119, t120, t125, t45, Nat.reduceEqDiff, reduceIte, ite_true, ite_false, upd_r]
      intro j hj
      by_cases ej : j = (T 13 57).toNatClampNeg
      · rw [if_pos ej, if_pos ej]; exact fun _ => ⟨hal, hlt⟩
      · rw [if_neg ej, if_neg ej]; exact hLT j (by omega)
    · have w12 : ¬ ((¬ ((T 127 s.toNatClampNeg) = 1)) ∧ (¬ ((T 127 s.toNatClampNeg) = 2))) := by
        rintro ⟨g1, g2⟩
        unfold zn at hway
        have k0 : (T 127 s.toNatClampNeg).toInt ≠ 0 := fun q => w0 (zk_eq.mpr q)
        have k1 : (T 127 s.toNatClampNeg).toInt ≠ 1 := fun q => g1 (zk_eq.mpr q)
        have k2 : (T 127 s.toNatClampNeg).toInt ≠ 2 := fun q => g2 (zk_eq.mpr q)
        omega
      simp only [if_neg w0, if_neg w12]
      refine ⟨trivial, hL1, ?_, by decide, by decide⟩
      unfold zLT
      simp only [zup2, zup1, Nat.reduceEqDiff, reduceIte, ite_true, ite_false]
      exact hLT
  exact ⟨key.1, ⟨(zSeal_kc rfl (p_G205 a b c d S) (zSeal_km rfl (p_G296 a b c d T) (zQ_Seal h))), (zKey_kc rfl (p_G205 a b c d S) (zKey_km rfl (p_G296 a b c d T) (zQ_Key h))), (zEng_kc rfl (p_G205 a b c d S) (zEng_km rfl (p_G296 a b c d T) (zQ_Eng h))), (zRul_kc rfl (p_G205 a b c d S) (zRul_km rfl (p_G296 a b c d T) (zQ_Rul h))), (zPpl_kc rfl (p_G205 a b c d S) (zPpl_km rfl (p_G296 a b c d T) (zQ_Ppl h))), (zTok_kc rfl (p_G205 a b c d S) (zTok_km rfl (p_G296 a b c d T) (zQ_Tok h))), key.2.1, key.2.2.1, (zSto_kc rfl (p_G205 a b c d S) (zSto_km rfl (p_G296 a b c d T) (zQ_Sto h))), (zFar_kc rfl (p_G205 a b c d S) (zFar_km rfl (p_G296 a b c d T) (zQ_Far h))), (zLog_kc rfl (p_G205 a b c d S) (zLog_km rfl (p_G296 a b c d T) (zQ_Log h))), (zWra_kc rfl (p_G205 a b c d S) (zWra_km rfl (p_G296 a b c d T) (zQ_Wra h))), (zCas_kc rfl (p_G205 a b c d S) (zCas_km rfl (p_G296 a b c d T) (zQ_Cas h))), (zCer_kc rfl (p_G205 a b c d S) (zCer_km rfl (p_G296 a b c d T) (zQ_Cer h))), (zSin_kc rfl (p_G205 a b c d S) (zSin_km rfl (p_G296 a b c d T) (zQ_Sin h)))⟩, key.2.2.2⟩
/-- certificates -/
theorem z7 {S T : zS} (h : zCer S T) (c : Int32) : F7 c (T 13 1) S = F308 c T := by
  obtain ⟨-, -, e73, e74, -, e76, -⟩ := h
  unfold F7 F308
  rw [e73, e74, e76]
  unfold zb
  by_cases c0 : T 141 c.toNatClampNeg ≤ T 13 1
  · rw [if_pos c0, if_neg (fun q => q.1 c0)]
  by_cases c1 : T 143 c.toNatClampNeg = 0
  rotate_left
  · rw [if_neg c0, if_neg c1, if_neg (fun q => c1 q.2.1)]
  rw [if_neg c0, if_pos c1]
  by_cases c2 : T 139 c.toNatClampNeg = c
  · rw [if_pos c2, c2, if_pos ⟨c0, c1, c0, c1⟩]
  rw [if_neg c2]
  by_cases c3 : T 141 (T 139 c.toNatClampNeg).toNatClampNeg ≤ T 13 1
  · rw [if_pos c3, if_neg (fun q => q.2.2.1 c3)]
  rw [if_neg c3]
  by_cases c4 : T 143 (T 139 c.toNatClampNeg).toNatClampNeg = 0
  · rw [if_pos c4, if_pos ⟨c0, c1, c3, c4⟩]
  · rw [if_neg c4, if_neg (fun q => c4 q.2.2.2)]
/-- who issues -/
theorem z3by {S T : zS} (h : zCer S T) (a b : Int32) : (F3 a S = -1 ∧ K309_20_c3 a b (T 13 79) 0 T = T 13 79) ∨ ∃ i, i < (T 13 79).toNatClampNeg ∧ F3 a S = Int32.ofNat i ∧ K309_20_c3 a b (T 13 79) 0 T = Int32.ofNat i ∧ T 140 i = a - zrem a 6 ∧ ¬ zrem a 6 = 0 := by
  obtain ⟨e11, e72, -⟩ := h
  unfold F3 K309_20_c3 K309_20
  by_cases c0 : zrem a 6 = 0
  · rw [if_pos c0, if_pos c0]; exact Or.inl ⟨rfl, rfl⟩
  rw [if_neg c0, if_neg c0, e72, e11]
  have key := zfold_sim (f := fun j b => if T 140 j = a - zrem a 6 then Int32.ofNat j else b) (g := k309_20 a b T) (i := 0) (n := (T 13 79).toNatClampNeg) (a := (-1 : Int32)) (b := T 13 79) (I := fun j x y => (x = -1 ∧ y = T 13 79) ∨ ∃ i, i < j ∧ x = Int32.ofNat i ∧ y = Int32.ofNat i ∧ T 140 i = a - zrem a 6) (Or.inl ⟨rfl, rfl⟩) (fun j x y hj hI => by
    rw [Nat.zero_add]
    unfold k309_20
    by_cases c1 : T 140 j = a - zrem a 6
    · rw [if_pos c1, if_pos c1]; exact Or.inr ⟨j, Nat.lt_succ_self j, rfl, rfl, c1⟩
    · rw [if_neg c1, if_neg c1]
      rcases hI with hI | ⟨i, h1, h2⟩
      · exact Or.inl hI
      · exact Or.inr ⟨i, by omega, h2⟩)
  rw [Nat.sub_zero]
  rcases key with key | ⟨i, h1, h2, h3, h4⟩
  · exact Or.inl key
  · exact Or.inr ⟨i, h1, h2, h3, h4, c0⟩
theorem zrem_6 {a : Int32} (h : zx 216 a) : zrem (a - zrem a 6) 6 = 0 := by
  rw [zx_iff] at h
  have e1 := zrem_nn (x := a) (y := 6) (by decide) h.1
  rw [zlt_6] at e1
  have e2 : (a - zrem a 6).toInt = a.toInt - a.toInt % 6 := by rw [zk_tsub (by omega) (by omega), e1]
  have e3 := zrem_nn (x := a - zrem a 6) (y := 6) (by decide) (by omega)
  rw [zlt_6] at e3
  apply zk_eq.mpr
  rw [e3, e2, zlt_0]
  omega
theorem zCer_p {S T : zS} (h : zCer S T) (a i e : Int32) (hlt : T 13 79 < 30) (ha : zx 216 a) (hi : (i = T 13 79) ∨ ((0 ≤ i.toInt) ∧ (i.toInt < (T 13 79).toInt) ∧ T 139 i.toNatClampNeg = i ∧ ¬ zrem a 6 = 0)) : zCer (z_up (z_up (z_up (z_up S 72 (T 13 79).toNatClampNeg a) 74 (T 13 79).toNatClampNeg i) 73 (T 13 79).toNatClampNeg e) 11 0 ((T 13 79) + 1)) (z_up (z_up (z_up (z_up T 139 (T 13 79).toNatClampNeg i) 140 (T 13 79).toNatClampNeg a) 141 (T 13 79).toNatClampNeg e) 13 79 ((T 13 79) + 1)) := by
  unfold zCer at h ⊢
  obtain ⟨k0, k1, k2, k3, k4, k5, k6, k7, k8, k9, k10⟩ := h
  rw [zk_lt, zlt_30] at hlt
  have e1 : (T 13 79 + 1).toInt = (T 13 79).toInt + 1 := by
    unfold zn at k6
    rw [zk_tadd (by rw [zk_1]; omega) (by rw [zk_1]; omega), zk_1]
  have e2 := zk_nat k6.1
  have e3 := zk_nat (x := T 13 79 + 1) (by have := k6.1; omega)
  simp only [zup2, zup1, k0, k1, k2, k3, k4, k5, not_false_eq_true, not_true_eq_false, Nat.reduceEqDiff, reduceIte, true_and, and_true, ite_true, ite_false]
  refine ⟨?_, ?_, ?_, k9, k10⟩
  · have := k6.1; unfold zn; omega
  · intro c hc
    by_cases ec : c = (T 13 79).toNatClampNeg
    · rw [if_pos ec]
      rcases hi with rfl | ⟨q1, q2, q3, q4⟩
      · refine ⟨by omega, by omega, ?_⟩
        rw [if_pos rfl]
      · have := zk_nat q1
        refine ⟨q1, by omega, ?_⟩
        rw [if_neg (by omega)]; exact q3
    · rw [if_neg ec]
      obtain ⟨g1, g2, g3⟩ := k7 c (by omega)
      have := zk_nat g1
      refine ⟨g1, g2, ?_⟩
      rw [if_neg (by omega)]; exact g3
  · intro c hc
    by_cases ec : c = (T 13 79).toNatClampNeg
    · rw [if_pos ec, if_pos ec]
      refine ⟨ha, fun hz => ?_⟩
      rcases hi with rfl | ⟨q1, q2, q3, q4⟩
      · rw [ec]; exact (zk_of k6.1).symm
      · exact absurd hz q4
    · rw [if_neg ec, if_neg ec]
      exact k8 c (by omega)
theorem zce {n : Nat} {S T : zS} (h : zQ n S T) (a b : Int32) (ha : zx 216 a) : F309 a b T = F208 a b S ∧ zQ n (G208 a b S) (G309 a b T) ∧ ¬ F208 a b S = -2 ∧ ¬ F208 a b S = -3 := by
  have hC := zQ_Cer h
  have hE := zQ_Eng h
  have e11 : S 11 0 = T 13 79 := hC.1
  have e73 : S 73 = T 141 := hC.2.2.1
  have hn := hC.2.2.2.2.2.2.1
  have h7 := hC.2.2.2.2.2.2.2.1
  have h8 := hC.2.2.2.2.2.2.2.2.1
  have s11 : S 0 11 = T 13 1 := (zQ_Key h).2.2.2.2.2.2.1
  have e30 := zeq_top hn zlt_30
  have key : F309 a b T = F208 a b S ∧ zCer (G208 a b S) (G309 a b T) ∧ ¬ F208 a b S = -2 ∧ ¬ F208 a b S = -3 := by
    unfold F309 F208 G208 G309 G4
    rw [hE.1, e11, s11, Int32.add_sub_cancel, z7 hC]
    simp only [e30]
    by_cases c0 : T 84 (a / 36).toNatClampNeg = 2
    rotate_left
    · simp only [if_neg c0]; exact ⟨trivial, hC, by decide, by decide⟩
    by_cases c1 : T 13 79 < 30
    rotate_left
    · simp only [if_pos c0, c1, not_false_eq_true, if_true]; exact ⟨trivial, hC, by decide, by decide⟩
    simp only [if_pos c0, c1, not_true_eq_false, if_false]
    have hcl := zn_cl hn
    have hnat := zk_nat hn.1
    rcases z3by hC a b with ⟨f1, f2⟩ | ⟨i, hi, f1, f2, f3, f4⟩
    · rw [f1, f2]
      simp only [if_true]
      exact ⟨trivial, zCer_p hC a (T 13 79) (T 13 1 + b) c1 ha (Or.inl rfl), zn_m hn (by decide), zn_m hn (by decide)⟩
    · have hne1 : ¬ Int32.ofNat i = -1 := by intro e; have := zk_ti i (by omega); rw [e, zlt_m1] at this; omega
      have hne2 : ¬ Int32.ofNat i = T 13 79 := by intro e; have := zk_ti i (by omega); rw [e] at this; omega
      rw [f1, f2]
      simp only [if_neg hne1, if_neg hne2]
      by_cases c2 : F308 (Int32.ofNat i) T = 0
      · simp only [if_pos c2]; exact ⟨trivial, hC, by decide, by decide⟩
      · simp only [if_neg c2]
        have hs : T 139 i = Int32.ofNat i := (h8 i hi).2 (by rw [f3]; exact zrem_6 ha)
        have hmin : zmin (T 13 1 + b) (S 73 (Int32.ofNat i).toNatClampNeg) = (if (((T 13 1) + b) ≤ (T 141 (Int32.ofNat i).toNatClampNeg)) then (((T 13 1) + b) : Int32) else (T 141 (Int32.ofNat i).toNatClampNeg)) := by
          rw [e73]
          unfold zmin
          generalize T 141 (Int32.ofNat i).toNatClampNeg = y
          generalize T 13 1 + b = x
          by_cases g : y < x
          · rw [if_pos g, if_neg (fun q => by rw [zk_lt] at g; rw [zk_le] at q; omega)]
          · rw [if_neg g, if_pos (by rw [zk_lt] at g; rw [zk_le]; omega)]
        rw [hmin]
        refine ⟨trivial, zCer_p hC a (Int32.ofNat i) _ c1 ha (Or.inr ⟨?_, ?_, ?_, f4⟩), zn_m hn (by decide), zn_m hn (by decide)⟩
        · rw [zk_ti i (by omega)]; omega
        · rw [zk_ti i (by omega)]; omega
        · rw [zk_ix i (by omega)]; exact hs
  exact ⟨key.1, ⟨(zSeal_kc rfl (p_G208 a b S) (zSeal_km rfl (p_G309 a b T) (zQ_Seal h))), (zKey_kc rfl (p_G208 a b S) (zKey_km rfl (p_G309 a b T) (zQ_Key h))), (zEng_kc rfl (p_G208 a b S) (zEng_km rfl (p_G309 a b T) (zQ_Eng h))), (zRul_kc rfl (p_G208 a b S) (zRul_km rfl (p_G309 a b T) (zQ_Rul h))), (zPpl_kc rfl (p_G208 a b S) (zPpl_km rfl (p_G309 a b T) (zQ_Ppl h))), (zTok_kc rfl (p_G208 a b S) (zTok_km rfl (p_G309 a b T) (zQ_Tok h))), (zLea_kc rfl (p_G208 a b S) (zLea_km rfl (p_G309 a b T) (zQ_Lea h))), (zLT_kc rfl (p_G208 a b S) (zLT_km rfl (p_G309 a b T) (zQ_LT h))), (zSto_kc rfl (p_G208 a b S) (zSto_km rfl (p_G309 a b T) (zQ_Sto h))), (zFar_kc rfl (p_G208 a b S) (zFar_km rfl (p_G309 a b T) (zQ_Far h))), (zLog_kc rfl (p_G208 a b S) (zLog_km rfl (p_G309 a b T) (zQ_Log h))), (zWra_kc rfl (p_G208 a b S) (zWra_km rfl (p_G309 a b T) (zQ_Wra h))), (zCas_kc rfl (p_G208 a b S) (zCas_km rfl (p_G309 a b T) (zQ_Cas h))), key.2.1, (zSin_kc rfl (p_G208 a b S) (zSin_km rfl (p_G309 a b T) (zQ_Sin h)))⟩, key.2.2⟩
