/-! ===== the law's loop, over registers (by genlaw2.py) ===== -/
abbrev KL (S : SV) (L : Nat) : Nat → Bool × PT := kL_law S L 600000 7302250
/-- calls after which the script is known to be as it was -/
abbrev MR : OR := fun y vs σ Q => MM y vs σ (fun r σ' => am_ro σ σ' → Q r σ')
theorem MR_mo : am_mo MR := fun y vs σ Q Q' h => MM_mo y vs σ _ _ (fun r t g ro => h r t (g ro))
theorem h_law (L n : Nat) {Q : PO} {pc : Nat} {ls : ALs} {st : List AV} {σ : HS} {a b : Nat} : am_T (KL S1 L) MR Q pc ls st σ a b ↔ (KL S1 L pc).2 MR Q (am_run (KL S1 L) MR Q n) ls st σ a b := am_go (gL_law S1 L 600000 7302250) MR_mo n
theorem cC_20 (σ : HS) : gC S1 σ 20 = 1 := rfl
theorem am_sw_all {x : Int32} {d : Nat} {K : KT} {ls : ALs} {st : List AV} {σ : HS} {a b : Nat} (hd : K d ls st σ a b) : ∀ (l : List (Int32 × Nat)), (∀ q, q ∈ l → K q.2 ls st σ a b) → am_sw x d K ls st σ a b l
  | [], _ => hd
  | (v, t) :: r, h => by
    rw [E_sw_c]
    split
    · exact h (v, t) List.mem_cons_self
    · exact am_sw_all hd r (fun q hq => h q (List.mem_cons_of_mem _ hq))
abbrev lsL (k : Nat) : ALs := [some (.inr (.inr (some (20, 0)))), some (.inr (.inr (some (11, 0)))), some (.inr (.inr (some (12, 0)))), some (.inl (nI (6 * k)))]
theorem ct_rt (r : Option AV) : am_ct (am_rt r []) ≤ 2 := by
  match r with
  | none => exact Nat.zero_le _
  | some (.inl _) => exact Nat.le_of_ble_eq_true rfl
  | some (.inr (.inl _)) => exact Nat.le_refl _
  | some (.inr (.inr _)) => exact Nat.le_of_ble_eq_true rfl
theorem nI_6 (k j : Nat) (d : Int32) (hd : d = nI j) : nI (6 * k) + d = nI (6 * k + j) := by rw [hd, nI_add]
/-- the place behind a case, and the next round of the loop -/
theorem l_next {L k a b : Nat} {σ : HS} {Q : PO} (hX : am_T (KL S1 L) MR Q 18 (lsL (k + 1)) [] σ a b) : am_T (KL S1 L) MR Q 1186 (lsL k) [] σ a b := by
  have e6 : nI (6 * k) + 6 = nI (6 * (k + 1)) := by rw [nI_6 k 6 6 (by decide)]; rfl
  rw [h_law L 2]
  simp only [am_run_s, bt, lf, am_in, am_ar, am_fit, am_ld, am_ct, Nat.reduceLT, Nat.reduceEqDiff, reduceIte, Nat.reduceAdd, Nat.reduceLeDiff, Nat.reduceSub, Bool.false_eq_true, if_true, if_false, ite_true, ite_false, List.length_cons, List.length_nil, Nat.zero_add, Nat.add_zero, and_true, true_and, true_or, or_true, and_self, Nat.le_refl, Nat.lt_irrefl, gI_sI, gL_sL, gQ_sQ, gI_sJ, gI_sL, gI_sQ, gL_sI, gL_sQ, gL_sJ, gQ_sI, gQ_sL, gQ_sJ, gN_sI, gN_sL, gN_sQ, gN_sJ, E_b2_0, E_cI_a, E_cI_b, E_cV_a, E_cV_b, E_c_0, E_dup_0, E_dup_1, E_i2l_0, E_inc_a, E_inc_b, E_je_0, E_jg_0, E_jmp_0, E_jz_0, E_kk, E_l2_0, E_lcmp_0, E_ldI_a, E_ldI_b, E_ldR_a, E_ldR_b, E_lsh_0, E_new_0, E_rZ_0, E_sld_0, E_slen_0, E_stI_0, E_stR_0, E_sw_0, Nat.reduceDiv, am_cc, am_nl, am_ok, am_pop, am_rt, am_set, am_v, am_vo, am_vs, cC_11, cC_12, gI_sO, gL_sO, gN_sO, gQ_sO, nN_10, nN_3, kL_law, kL_law_0, kL_law_16, e6]
  exact hX
theorem law_node {L k a b : Nat} {σ : HS} {Q : PO} (hk : k < 512) (hL : 6 * k + 6 ≤ L) (hL2 : L ≤ 3072) (hI : Inv k σ) (ha : a + 1 ≤ 600000) (hb : b + 18 ≤ 7302250) (hX : ∀ σ' a' b', Inv (k + 1) σ' → a' ≤ a + 1 → b' ≤ b + 18 → am_T (KL S1 L) MR Q 18 (lsL (k + 1)) [] σ' a' b') : am_T (KL S1 L) MR Q 200 (lsL k) [] σ a b := by
  have hb2 : b + 4 ≤ 7302250 := by omega
  rw [h_law L 1]
  simp only [am_run_z, am_run_s, bt, lf, am_in, am_ar, am_fit, am_ld, am_ct, Nat.reduceLT, Nat.reduceEqDiff, reduceIte, Nat.reduceAdd, Nat.reduceLeDiff, Nat.reduceSub, Bool.false_eq_true, if_true, if_false, ite_true, ite_false, List.length_cons, List.length_nil, Nat.zero_add, Nat.add_zero, and_true, true_and, true_or, or_true, and_self, Nat.le_refl, Nat.lt_irrefl, gI_sI, gL_sL, gQ_sQ, gI_sJ, gI_sL, gI_sQ, gL_sI, gL_sQ, gL_sJ, gQ_sI, gQ_sL, gQ_sJ, gN_sI, gN_sL, gN_sQ, gN_sJ, E_b2_0, E_cI_a, E_cI_b, E_cV_a, E_cV_b, E_c_0, E_dup_0, E_dup_1, E_i2l_0, E_inc_a, E_inc_b, E_je_0, E_jg_0, E_jmp_0, E_jz_0, E_kk, E_l2_0, E_lcmp_0, E_ldI_a, E_ldI_b, E_ldR_a, E_ldR_b, E_lsh_0, E_new_0, E_rZ_0, E_sld_0, E_slen_0, E_stI_0, E_stR_0, E_sw_0, Nat.reduceDiv, am_cc, am_nl, am_ok, am_pop, am_rt, am_set, am_v, am_vo, am_vs, cC_11, cC_12, gI_sO, gL_sO, gN_sO, gQ_sO, nN_10, nN_3, kL_law, kL_law_0, am_vo, am_vs, am_v, cC_20, cC_11, cC_12, ha, hb2, Nat.lt_add_one, or_true, true_or]
  refine MM_mo _ _ _ _ _ ?_ (api_node k σ hk hI)
  intro r σ1 h ro
  simp only [am_run_z, E_kk, Nat.add_zero]
  have hct := ct_rt r
  generalize hst : am_rt r [] = st0 at hct ⊢
  have hc8 : am_ct st0 ≤ 8 := by omega
  have hc8_1 : 1 + am_ct st0 ≤ 8 := by omega
  have hc8_2 : 2 + am_ct st0 ≤ 8 := by omega
  have hc8_3 : 3 + am_ct st0 ≤ 8 := by omega
  have hc8_4 : 4 + am_ct st0 ≤ 8 := by omega
  have hc8_5 : 5 + am_ct st0 ≤ 8 := by omega
  have hc8_6 : 6 + am_ct st0 ≤ 8 := by omega
  have ha3 : a + 1 ≤ 600000 := by omega
  have hb3 : b + 4 ≤ 7302250 := by omega
  rw [h_law L 2]
  simp only [am_run_z, am_run_s, bt, lf, am_in, am_ar, am_fit, am_ld, am_ct, Nat.reduceLT, Nat.reduceEqDiff, reduceIte, Nat.reduceAdd, Nat.reduceLeDiff, Nat.reduceSub, Bool.false_eq_true, if_true, if_false, ite_true, ite_false, List.length_cons, List.length_nil, Nat.zero_add, Nat.add_zero, and_true, true_and, true_or, or_true, and_self, Nat.le_refl, Nat.lt_irrefl, gI_sI, gL_sL, gQ_sQ, gI_sJ, gI_sL, gI_sQ, gL_sI, gL_sQ, gL_sJ, gQ_sI, gQ_sL, gQ_sJ, gN_sI, gN_sL, gN_sQ, gN_sJ, E_b2_0, E_cI_a, E_cI_b, E_cV_a, E_cV_b, E_c_0, E_dup_0, E_dup_1, E_i2l_0, E_inc_a, E_inc_b, E_je_0, E_jg_0, E_jmp_0, E_jz_0, E_kk, E_l2_0, E_lcmp_0, E_ldI_a, E_ldI_b, E_ldR_a, E_ldR_b, E_lsh_0, E_new_0, E_rZ_0, E_sld_0, E_slen_0, E_stI_0, E_stR_0, E_sw_0, Nat.reduceDiv, am_cc, am_nl, am_ok, am_pop, am_rt, am_set, am_v, am_vo, am_vs, cC_11, cC_12, gI_sO, gL_sO, gN_sO, gQ_sO, nN_10, nN_3, kL_law, kL_law_0, kL_law_16, hc8, hc8_1, hc8_2, hc8_3, hc8_4, hc8_5, hc8_6, E_kk, ha3, hb3, true_or]
  refine MM_mo _ _ _ _ _ ?_ h
  intro r2 σ2 hh ro2
  obtain ⟨⟨v, e1', e2'⟩, hI2⟩ := hh
  subst e1'
  subst e2'
  subst hst
  simp only [am_run_z, E_kk, am_rt, am_run_s, bt, lf, am_in, am_ar, am_fit, am_ld, am_ct, Nat.reduceLT, Nat.reduceEqDiff, reduceIte, Nat.reduceAdd, Nat.reduceLeDiff, Nat.reduceSub, Bool.false_eq_true, if_true, if_false, ite_true, ite_false, List.length_cons, List.length_nil, Nat.zero_add, Nat.add_zero, and_true, true_and, true_or, or_true, and_self, Nat.le_refl, Nat.lt_irrefl, gI_sI, gL_sL, gQ_sQ, gI_sJ, gI_sL, gI_sQ, gL_sI, gL_sQ, gL_sJ, gQ_sI, gQ_sL, gQ_sJ, gN_sI, gN_sL, gN_sQ, gN_sJ, E_b2_0, E_cI_a, E_cI_b, E_cV_a, E_cV_b, E_c_0, E_dup_0, E_dup_1, E_i2l_0, E_inc_a, E_inc_b, E_je_0, E_jg_0, E_jmp_0, E_jz_0, E_kk, E_l2_0, E_lcmp_0, E_ldI_a, E_ldI_b, E_ldR_a, E_ldR_b, E_lsh_0, E_new_0, E_rZ_0, E_sld_0, E_slen_0, E_stI_0, E_stR_0, E_sw_0, Nat.reduceDiv, am_cc, am_nl, am_ok, am_pop, am_rt, am_set, am_v, am_vo, am_vs, cC_11, cC_12, gI_sO, gL_sO, gN_sO, gQ_sO, nN_10, nN_3, kL_law, kL_law_0, kL_law_16]
  exact l_next (hX σ2 _ _ hI2 (by omega) (by omega))
theorem law_word {L k a b : Nat} {σ : HS} {Q : PO} (hk : k < 512) (hL : 6 * k + 6 ≤ L) (hL2 : L ≤ 3072) (hI : Inv k σ) (ha : a + 1 ≤ 600000) (hb : b + 18 ≤ 7302250) (hX : ∀ σ' a' b', Inv (k + 1) σ' → a' ≤ a + 1 → b' ≤ b + 18 → am_T (KL S1 L) MR Q 18 (lsL (k + 1)) [] σ' a' b') : am_T (KL S1 L) MR Q 213 (lsL k) [] σ a b := by
  have e1 := nI_6 k 1 1 (by decide)
  have v1 : vp_in (nI (6 * k + 1)) L := vp_in_nI (by omega) (by omega)
  have c1 : (nI (6 * k + 1)).toNatClampNeg = 6 * k + 1 := nI_clamp (by omega)
  have e2 := nI_6 k 2 2 (by decide)
  have v2 : vp_in (nI (6 * k + 2)) L := vp_in_nI (by omega) (by omega)
  have c2 : (nI (6 * k + 2)).toNatClampNeg = 6 * k + 2 := nI_clamp (by omega)
  have e3 := nI_6 k 3 3 (by decide)
  have v3 : vp_in (nI (6 * k + 3)) L := vp_in_nI (by omega) (by omega)
  have c3 : (nI (6 * k + 3)).toNatClampNeg = 6 * k + 3 := nI_clamp (by omega)
  have e4 := nI_6 k 4 4 (by decide)
  have v4 : vp_in (nI (6 * k + 4)) L := vp_in_nI (by omega) (by omega)
  have c4 : (nI (6 * k + 4)).toNatClampNeg = 6 * k + 4 := nI_clamp (by omega)
  have e5 := nI_6 k 5 5 (by decide)
  have v5 : vp_in (nI (6 * k + 5)) L := vp_in_nI (by omega) (by omega)
  have c5 : (nI (6 * k + 5)).toNatClampNeg = 6 * k + 5 := nI_clamp (by omega)
  have hb2 : b + 18 ≤ 7302250 := by omega
  rw [h_law L 26]
  simp only [am_run_z, am_run_s, bt, lf, am_in, am_ar, am_fit, am_ld, am_ct, Nat.reduceLT, Nat.reduceEqDiff, reduceIte, Nat.reduceAdd, Nat.reduceLeDiff, Nat.reduceSub, Bool.false_eq_true, if_true, if_false, ite_true, ite_false, List.length_cons, List.length_nil, Nat.zero_add, Nat.add_zero, and_true, true_and, true_or, or_true, and_self, Nat.le_refl, Nat.lt_irrefl, gI_sI, gL_sL, gQ_sQ, gI_sJ, gI_sL, gI_sQ, gL_sI, gL_sQ, gL_sJ, gQ_sI, gQ_sL, gQ_sJ, gN_sI, gN_sL, gN_sQ, gN_sJ, E_b2_0, E_cI_a, E_cI_b, E_cV_a, E_cV_b, E_c_0, E_dup_0, E_dup_1, E_i2l_0, E_inc_a, E_inc_b, E_je_0, E_jg_0, E_jmp_0, E_jz_0, E_kk, E_l2_0, E_lcmp_0, E_ldI_a, E_ldI_b, E_ldR_a, E_ldR_b, E_lsh_0, E_new_0, E_rZ_0, E_sld_0, E_slen_0, E_stI_0, E_stR_0, E_sw_0, Nat.reduceDiv, am_cc, am_nl, am_ok, am_pop, am_rt, am_set, am_v, am_vo, am_vs, cC_11, cC_12, gI_sO, gL_sO, gN_sO, gQ_sO, nN_10, nN_3, kL_law, kL_law_0, kL_law_1, e1, v1, c1, e2, v2, c2, e3, v3, c3, e4, v4, c4, e5, v5, c5, am_vo, am_vs, am_v, cC_20, cC_11, cC_12, ha, hb2, Nat.lt_add_one, or_true, true_or]
  refine MM_mo _ _ _ _ _ ?_ (api_word _ _ _ _ _ k σ hk hI)
  intro r σ1 h ro
  simp only [am_run_z, E_kk, Nat.add_zero]
  have hct := ct_rt r
  generalize hst : am_rt r [] = st0 at hct ⊢
  have hc8 : am_ct st0 ≤ 8 := by omega
  have hc8_1 : 1 + am_ct st0 ≤ 8 := by omega
  have hc8_2 : 2 + am_ct st0 ≤ 8 := by omega
  have hc8_3 : 3 + am_ct st0 ≤ 8 := by omega
  have hc8_4 : 4 + am_ct st0 ≤ 8 := by omega
  have hc8_5 : 5 + am_ct st0 ≤ 8 := by omega
  have hc8_6 : 6 + am_ct st0 ≤ 8 := by omega
  have sc : ∀ j, gI σ1 20 j = gI σ 20 j := ro.1
  have ha3 : a + 1 ≤ 600000 := by omega
  have hb3 : b + 18 ≤ 7302250 := by omega
  rw [h_law L 27]
  simp only [am_run_z, am_run_s, bt, lf, am_in, am_ar, am_fit, am_ld, am_ct, Nat.reduceLT, Nat.reduceEqDiff, reduceIte, Nat.reduceAdd, Nat.reduceLeDiff, Nat.reduceSub, Bool.false_eq_true, if_true, if_false, ite_true, ite_false, List.length_cons, List.length_nil, Nat.zero_add, Nat.add_zero, and_true, true_and, true_or, or_true, and_self, Nat.le_refl, Nat.lt_irrefl, gI_sI, gL_sL, gQ_sQ, gI_sJ, gI_sL, gI_sQ, gL_sI, gL_sQ, gL_sJ, gQ_sI, gQ_sL, gQ_sJ, gN_sI, gN_sL, gN_sQ, gN_sJ, E_b2_0, E_cI_a, E_cI_b, E_cV_a, E_cV_b, E_c_0, E_dup_0, E_dup_1, E_i2l_0, E_inc_a, E_inc_b, E_je_0, E_jg_0, E_jmp_0, E_jz_0, E_kk, E_l2_0, E_lcmp_0, E_ldI_a, E_ldI_b, E_ldR_a, E_ldR_b, E_lsh_0, E_new_0, E_rZ_0, E_sld_0, E_slen_0, E_stI_0, E_stR_0, E_sw_0, Nat.reduceDiv, am_cc, am_nl, am_ok, am_pop, am_rt, am_set, am_v, am_vo, am_vs, cC_11, cC_12, gI_sO, gL_sO, gN_sO, gQ_sO, nN_10, nN_3, kL_law, kL_law_1, kL_law_16, e1, v1, c1, e2, v2, c2, e3, v3, c3, e4, v4, c4, e5, v5, c5, hc8, hc8_1, hc8_2, hc8_3, hc8_4, hc8_5, hc8_6, sc, ha3, hb3, true_or]
  refine MM_mo _ _ _ _ _ ?_ h
  intro r2 σ2 hh ro2
  obtain ⟨⟨v, e1', e2'⟩, hI2⟩ := hh
  subst e1'
  subst e2'
  subst hst
  simp only [am_run_z, E_kk, am_rt, am_run_s, bt, lf, am_in, am_ar, am_fit, am_ld, am_ct, Nat.reduceLT, Nat.reduceEqDiff, reduceIte, Nat.reduceAdd, Nat.reduceLeDiff, Nat.reduceSub, Bool.false_eq_true, if_true, if_false, ite_true, ite_false, List.length_cons, List.length_nil, Nat.zero_add, Nat.add_zero, and_true, true_and, true_or, or_true, and_self, Nat.le_refl, Nat.lt_irrefl, gI_sI, gL_sL, gQ_sQ, gI_sJ, gI_sL, gI_sQ, gL_sI, gL_sQ, gL_sJ, gQ_sI, gQ_sL, gQ_sJ, gN_sI, gN_sL, gN_sQ, gN_sJ, E_b2_0, E_cI_a, E_cI_b, E_cV_a, E_cV_b, E_c_0, E_dup_0, E_dup_1, E_i2l_0, E_inc_a, E_inc_b, E_je_0, E_jg_0, E_jmp_0, E_jz_0, E_kk, E_l2_0, E_lcmp_0, E_ldI_a, E_ldI_b, E_ldR_a, E_ldR_b, E_lsh_0, E_new_0, E_rZ_0, E_sld_0, E_slen_0, E_stI_0, E_stR_0, E_sw_0, Nat.reduceDiv, am_cc, am_nl, am_ok, am_pop, am_rt, am_set, am_v, am_vo, am_vs, cC_11, cC_12, gI_sO, gL_sO, gN_sO, gQ_sO, nN_10, nN_3, kL_law, kL_law_1, kL_law_16]
  exact l_next (hX σ2 _ _ hI2 (by omega) (by omega))
theorem law_late {L k a b : Nat} {σ : HS} {Q : PO} (hk : k < 512) (hL : 6 * k + 6 ≤ L) (hL2 : L ≤ 3072) (hI : Inv k σ) (ha : a + 1 ≤ 600000) (hb : b + 18 ≤ 7302250) (hX : ∀ σ' a' b', Inv (k + 1) σ' → a' ≤ a + 1 → b' ≤ b + 18 → am_T (KL S1 L) MR Q 18 (lsL (k + 1)) [] σ' a' b') : am_T (KL S1 L) MR Q 276 (lsL k) [] σ a b := by
  have e1 := nI_6 k 1 1 (by decide)
  have v1 : vp_in (nI (6 * k + 1)) L := vp_in_nI (by omega) (by omega)
  have c1 : (nI (6 * k + 1)).toNatClampNeg = 6 * k + 1 := nI_clamp (by omega)
  have e2 := nI_6 k 2 2 (by decide)
  have v2 : vp_in (nI (6 * k + 2)) L := vp_in_nI (by omega) (by omega)
  have c2 : (nI (6 * k + 2)).toNatClampNeg = 6 * k + 2 := nI_clamp (by omega)
  have e3 := nI_6 k 3 3 (by decide)
  have v3 : vp_in (nI (6 * k + 3)) L := vp_in_nI (by omega) (by omega)
  have c3 : (nI (6 * k + 3)).toNatClampNeg = 6 * k + 3 := nI_clamp (by omega)
  have e4 := nI_6 k 4 4 (by decide)
  have v4 : vp_in (nI (6 * k + 4)) L := vp_in_nI (by omega) (by omega)
  have c4 : (nI (6 * k + 4)).toNatClampNeg = 6 * k + 4 := nI_clamp (by omega)
  have e5 := nI_6 k 5 5 (by decide)
  have v5 : vp_in (nI (6 * k + 5)) L := vp_in_nI (by omega) (by omega)
  have c5 : (nI (6 * k + 5)).toNatClampNeg = 6 * k + 5 := nI_clamp (by omega)
  have ha2 : a ≤ 600000 := by omega
  have hb2 : b ≤ 7302250 := by omega
  rw [h_law L 11]
  simp only [am_run_z, am_run_s, bt, lf, am_in, am_ar, am_fit, am_ld, am_ct, Nat.reduceLT, Nat.reduceEqDiff, reduceIte, Nat.reduceAdd, Nat.reduceLeDiff, Nat.reduceSub, Bool.false_eq_true, if_true, if_false, ite_true, ite_false, List.length_cons, List.length_nil, Nat.zero_add, Nat.add_zero, and_true, true_and, true_or, or_true, and_self, Nat.le_refl, Nat.lt_irrefl, gI_sI, gL_sL, gQ_sQ, gI_sJ, gI_sL, gI_sQ, gL_sI, gL_sQ, gL_sJ, gQ_sI, gQ_sL, gQ_sJ, gN_sI, gN_sL, gN_sQ, gN_sJ, E_b2_0, E_cI_a, E_cI_b, E_cV_a, E_cV_b, E_c_0, E_dup_0, E_dup_1, E_i2l_0, E_inc_a, E_inc_b, E_je_0, E_jg_0, E_jmp_0, E_jz_0, E_kk, E_l2_0, E_lcmp_0, E_ldI_a, E_ldI_b, E_ldR_a, E_ldR_b, E_lsh_0, E_new_0, E_rZ_0, E_sld_0, E_slen_0, E_stI_0, E_stR_0, E_sw_0, Nat.reduceDiv, am_cc, am_nl, am_ok, am_pop, am_rt, am_set, am_v, am_vo, am_vs, cC_11, cC_12, gI_sO, gL_sO, gN_sO, gQ_sO, nN_10, nN_3, kL_law, kL_law_1, kL_law_2, e1, v1, c1, e2, v2, c2, e3, v3, c3, e4, v4, c4, e5, v5, c5, ha2, hb2, true_or]
  refine MM_mo _ _ _ _ _ ?_ (api_late _ _ k σ hk hI)
  intro r σ1 h ro
  simp only [am_run_z, E_kk, Nat.add_zero]
  have hct := ct_rt r
  generalize hst : am_rt r [] = st0 at hct ⊢
  have hc8 : am_ct st0 ≤ 8 := by omega
  have hc8_1 : 1 + am_ct st0 ≤ 8 := by omega
  have hc8_2 : 2 + am_ct st0 ≤ 8 := by omega
  have hc8_3 : 3 + am_ct st0 ≤ 8 := by omega
  have hc8_4 : 4 + am_ct st0 ≤ 8 := by omega
  have hc8_5 : 5 + am_ct st0 ≤ 8 := by omega
  have hc8_6 : 6 + am_ct st0 ≤ 8 := by omega
  have sc : ∀ j, gI σ1 20 j = gI σ 20 j := ro.1
  have ha3 : a + 0 ≤ 600000 := by omega
  have hb3 : b + 0 ≤ 7302250 := by omega
  rw [h_law L 12]
  simp only [am_run_z, am_run_s, bt, lf, am_in, am_ar, am_fit, am_ld, am_ct, Nat.reduceLT, Nat.reduceEqDiff, reduceIte, Nat.reduceAdd, Nat.reduceLeDiff, Nat.reduceSub, Bool.false_eq_true, if_true, if_false, ite_true, ite_false, List.length_cons, List.length_nil, Nat.zero_add, Nat.add_zero, and_true, true_and, true_or, or_true, and_self, Nat.le_refl, Nat.lt_irrefl, gI_sI, gL_sL, gQ_sQ, gI_sJ, gI_sL, gI_sQ, gL_sI, gL_sQ, gL_sJ, gQ_sI, gQ_sL, gQ_sJ, gN_sI, gN_sL, gN_sQ, gN_sJ, E_b2_0, E_cI_a, E_cI_b, E_cV_a, E_cV_b, E_c_0, E_dup_0, E_dup_1, E_i2l_0, E_inc_a, E_inc_b, E_je_0, E_jg_0, E_jmp_0, E_jz_0, E_kk, E_l2_0, E_lcmp_0, E_ldI_a, E_ldI_b, E_ldR_a, E_ldR_b, E_lsh_0, E_new_0, E_rZ_0, E_sld_0, E_slen_0, E_stI_0, E_stR_0, E_sw_0, Nat.reduceDiv, am_cc, am_nl, am_ok, am_pop, am_rt, am_set, am_v, am_vo, am_vs, cC_11, cC_12, gI_sO, gL_sO, gN_sO, gQ_sO, nN_10, nN_3, kL_law, kL_law_16, kL_law_2, e1, v1, c1, e2, v2, c2, e3, v3, c3, e4, v4, c4, e5, v5, c5, hc8, hc8_1, hc8_2, hc8_3, hc8_4, hc8_5, hc8_6, sc, ha3, hb3, ha2, hb2, true_or]
  refine MM_mo _ _ _ _ _ ?_ h
  intro r2 σ2 hh ro2
  obtain ⟨⟨v, e1', e2'⟩, hI2⟩ := hh
  subst e1'
  subst e2'
  subst hst
  simp only [am_run_z, E_kk, am_rt, am_run_s, bt, lf, am_in, am_ar, am_fit, am_ld, am_ct, Nat.reduceLT, Nat.reduceEqDiff, reduceIte, Nat.reduceAdd, Nat.reduceLeDiff, Nat.reduceSub, Bool.false_eq_true, if_true, if_false, ite_true, ite_false, List.length_cons, List.length_nil, Nat.zero_add, Nat.add_zero, and_true, true_and, true_or, or_true, and_self, Nat.le_refl, Nat.lt_irrefl, gI_sI, gL_sL, gQ_sQ, gI_sJ, gI_sL, gI_sQ, gL_sI, gL_sQ, gL_sJ, gQ_sI, gQ_sL, gQ_sJ, gN_sI, gN_sL, gN_sQ, gN_sJ, E_b2_0, E_cI_a, E_cI_b, E_cV_a, E_cV_b, E_c_0, E_dup_0, E_dup_1, E_i2l_0, E_inc_a, E_inc_b, E_je_0, E_jg_0, E_jmp_0, E_jz_0, E_kk, E_l2_0, E_lcmp_0, E_ldI_a, E_ldI_b, E_ldR_a, E_ldR_b, E_lsh_0, E_new_0, E_rZ_0, E_sld_0, E_slen_0, E_stI_0, E_stR_0, E_sw_0, Nat.reduceDiv, am_cc, am_nl, am_ok, am_pop, am_rt, am_set, am_v, am_vo, am_vs, cC_11, cC_12, gI_sO, gL_sO, gN_sO, gQ_sO, nN_10, nN_3, kL_law, kL_law_16, kL_law_2]
  exact l_next (hX σ2 _ _ hI2 (by omega) (by omega))
theorem law_due {L k a b : Nat} {σ : HS} {Q : PO} (hk : k < 512) (hL : 6 * k + 6 ≤ L) (hL2 : L ≤ 3072) (hI : Inv k σ) (ha : a + 1 ≤ 600000) (hb : b + 18 ≤ 7302250) (hX : ∀ σ' a' b', Inv (k + 1) σ' → a' ≤ a + 1 → b' ≤ b + 18 → am_T (KL S1 L) MR Q 18 (lsL (k + 1)) [] σ' a' b') : am_T (KL S1 L) MR Q 309 (lsL k) [] σ a b := by
  have e1 := nI_6 k 1 1 (by decide)
  have v1 : vp_in (nI (6 * k + 1)) L := vp_in_nI (by omega) (by omega)
  have c1 : (nI (6 * k + 1)).toNatClampNeg = 6 * k + 1 := nI_clamp (by omega)
  have e2 := nI_6 k 2 2 (by decide)
  have v2 : vp_in (nI (6 * k + 2)) L := vp_in_nI (by omega) (by omega)
  have c2 : (nI (6 * k + 2)).toNatClampNeg = 6 * k + 2 := nI_clamp (by omega)
  have e3 := nI_6 k 3 3 (by decide)
  have v3 : vp_in (nI (6 * k + 3)) L := vp_in_nI (by omega) (by omega)
  have c3 : (nI (6 * k + 3)).toNatClampNeg = 6 * k + 3 := nI_clamp (by omega)
  have e4 := nI_6 k 4 4 (by decide)
  have v4 : vp_in (nI (6 * k + 4)) L := vp_in_nI (by omega) (by omega)
  have c4 : (nI (6 * k + 4)).toNatClampNeg = 6 * k + 4 := nI_clamp (by omega)
  have e5 := nI_6 k 5 5 (by decide)
  have v5 : vp_in (nI (6 * k + 5)) L := vp_in_nI (by omega) (by omega)
  have c5 : (nI (6 * k + 5)).toNatClampNeg = 6 * k + 5 := nI_clamp (by omega)
  have ha2 : a ≤ 600000 := by omega
  have hb2 : b ≤ 7302250 := by omega
  rw [h_law L 11]
  simp only [am_run_z, am_run_s, bt, lf, am_in, am_ar, am_fit, am_ld, am_ct, Nat.reduceLT, Nat.reduceEqDiff, reduceIte, Nat.reduceAdd, Nat.reduceLeDiff, Nat.reduceSub, Bool.false_eq_true, if_true, if_false, ite_true, ite_false, List.length_cons, List.length_nil, Nat.zero_add, Nat.add_zero, and_true, true_and, true_or, or_true, and_self, Nat.le_refl, Nat.lt_irrefl, gI_sI, gL_sL, gQ_sQ, gI_sJ, gI_sL, gI_sQ, gL_sI, gL_sQ, gL_sJ, gQ_sI, gQ_sL, gQ_sJ, gN_sI, gN_sL, gN_sQ, gN_sJ, E_b2_0, E_cI_a, E_cI_b, E_cV_a, E_cV_b, E_c_0, E_dup_0, E_dup_1, E_i2l_0, E_inc_a, E_inc_b, E_je_0, E_jg_0, E_jmp_0, E_jz_0, E_kk, E_l2_0, E_lcmp_0, E_ldI_a, E_ldI_b, E_ldR_a, E_ldR_b, E_lsh_0, E_new_0, E_rZ_0, E_sld_0, E_slen_0, E_stI_0, E_stR_0, E_sw_0, Nat.reduceDiv, am_cc, am_nl, am_ok, am_pop, am_rt, am_set, am_v, am_vo, am_vs, cC_11, cC_12, gI_sO, gL_sO, gN_sO, gQ_sO, nN_10, nN_3, kL_law, kL_law_2, e1, v1, c1, e2, v2, c2, e3, v3, c3, e4, v4, c4, e5, v5, c5, ha2, hb2, true_or]
  refine MM_mo _ _ _ _ _ ?_ (api_due _ _ k σ hk hI)
  intro r σ1 h ro
  simp only [am_run_z, E_kk, Nat.add_zero]
  have hct := ct_rt r
  generalize hst : am_rt r [] = st0 at hct ⊢
  have hc8 : am_ct st0 ≤ 8 := by omega
  have hc8_1 : 1 + am_ct st0 ≤ 8 := by omega
  have hc8_2 : 2 + am_ct st0 ≤ 8 := by omega
  have hc8_3 : 3 + am_ct st0 ≤ 8 := by omega
  have hc8_4 : 4 + am_ct st0 ≤ 8 := by omega
  have hc8_5 : 5 + am_ct st0 ≤ 8 := by omega
  have hc8_6 : 6 + am_ct st0 ≤ 8 := by omega
  have sc : ∀ j, gI σ1 20 j = gI σ 20 j := ro.1
  have ha3 : a + 0 ≤ 600000 := by omega
  have hb3 : b + 0 ≤ 7302250 := by omega
  rw [h_law L 12]
  simp only [am_run_z, am_run_s, bt, lf, am_in, am_ar, am_fit, am_ld, am_ct, Nat.reduceLT, Nat.reduceEqDiff, reduceIte, Nat.reduceAdd, Nat.reduceLeDiff, Nat.reduceSub, Bool.false_eq_true, if_true, if_false, ite_true, ite_false, List.length_cons, List.length_nil, Nat.zero_add, Nat.add_zero, and_true, true_and, true_or, or_true, and_self, Nat.le_refl, Nat.lt_irrefl, gI_sI, gL_sL, gQ_sQ, gI_sJ, gI_sL, gI_sQ, gL_sI, gL_sQ, gL_sJ, gQ_sI, gQ_sL, gQ_sJ, gN_sI, gN_sL, gN_sQ, gN_sJ, E_b2_0, E_cI_a, E_cI_b, E_cV_a, E_cV_b, E_c_0, E_dup_0, E_dup_1, E_i2l_0, E_inc_a, E_inc_b, E_je_0, E_jg_0, E_jmp_0, E_jz_0, E_kk, E_l2_0, E_lcmp_0, E_ldI_a, E_ldI_b, E_ldR_a, E_ldR_b, E_lsh_0, E_new_0, E_rZ_0, E_sld_0, E_slen_0, E_stI_0, E_stR_0, E_sw_0, Nat.reduceDiv, am_cc, am_nl, am_ok, am_pop, am_rt, am_set, am_v, am_vo, am_vs, cC_11, cC_12, gI_sO, gL_sO, gN_sO, gQ_sO, nN_10, nN_3, kL_law, kL_law_16, kL_law_2, e1, v1, c1, e2, v2, c2, e3, v3, c3, e4, v4, c4, e5, v5, c5, hc8, hc8_1, hc8_2, hc8_3, hc8_4, hc8_5, hc8_6, sc, ha3, hb3, ha2, hb2, true_or]
  refine MM_mo _ _ _ _ _ ?_ h
  intro r2 σ2 hh ro2
  obtain ⟨⟨v, e1', e2'⟩, hI2⟩ := hh
  subst e1'
  subst e2'
  subst hst
  simp only [am_run_z, E_kk, am_rt, am_run_s, bt, lf, am_in, am_ar, am_fit, am_ld, am_ct, Nat.reduceLT, Nat.reduceEqDiff, reduceIte, Nat.reduceAdd, Nat.reduceLeDiff, Nat.reduceSub, Bool.false_eq_true, if_true, if_false, ite_true, ite_false, List.length_cons, List.length_nil, Nat.zero_add, Nat.add_zero, and_true, true_and, true_or, or_true, and_self, Nat.le_refl, Nat.lt_irrefl, gI_sI, gL_sL, gQ_sQ, gI_sJ, gI_sL, gI_sQ, gL_sI, gL_sQ, gL_sJ, gQ_sI, gQ_sL, gQ_sJ, gN_sI, gN_sL, gN_sQ, gN_sJ, E_b2_0, E_cI_a, E_cI_b, E_cV_a, E_cV_b, E_c_0, E_dup_0, E_dup_1, E_i2l_0, E_inc_a, E_inc_b, E_je_0, E_jg_0, E_jmp_0, E_jz_0, E_kk, E_l2_0, E_lcmp_0, E_ldI_a, E_ldI_b, E_ldR_a, E_ldR_b, E_lsh_0, E_new_0, E_rZ_0, E_sld_0, E_slen_0, E_stI_0, E_stR_0, E_sw_0, Nat.reduceDiv, am_cc, am_nl, am_ok, am_pop, am_rt, am_set, am_v, am_vo, am_vs, cC_11, cC_12, gI_sO, gL_sO, gN_sO, gQ_sO, nN_10, nN_3, kL_law, kL_law_16, kL_law_2]
  exact l_next (hX σ2 _ _ hI2 (by omega) (by omega))
theorem law_value {L k a b : Nat} {σ : HS} {Q : PO} (hk : k < 512) (hL : 6 * k + 6 ≤ L) (hL2 : L ≤ 3072) (hI : Inv k σ) (ha : a + 1 ≤ 600000) (hb : b + 18 ≤ 7302250) (hX : ∀ σ' a' b', Inv (k + 1) σ' → a' ≤ a + 1 → b' ≤ b + 18 → am_T (KL S1 L) MR Q 18 (lsL (k + 1)) [] σ' a' b') : am_T (KL S1 L) MR Q 342 (lsL k) [] σ a b := by
  have e1 := nI_6 k 1 1 (by decide)
  have v1 : vp_in (nI (6 * k + 1)) L := vp_in_nI (by omega) (by omega)
  have c1 : (nI (6 * k + 1)).toNatClampNeg = 6 * k + 1 := nI_clamp (by omega)
  have e2 := nI_6 k 2 2 (by decide)
  have v2 : vp_in (nI (6 * k + 2)) L := vp_in_nI (by omega) (by omega)
  have c2 : (nI (6 * k + 2)).toNatClampNeg = 6 * k + 2 := nI_clamp (by omega)
  have e3 := nI_6 k 3 3 (by decide)
  have v3 : vp_in (nI (6 * k + 3)) L := vp_in_nI (by omega) (by omega)
  have c3 : (nI (6 * k + 3)).toNatClampNeg = 6 * k + 3 := nI_clamp (by omega)
  have e4 := nI_6 k 4 4 (by decide)
  have v4 : vp_in (nI (6 * k + 4)) L := vp_in_nI (by omega) (by omega)
  have c4 : (nI (6 * k + 4)).toNatClampNeg = 6 * k + 4 := nI_clamp (by omega)
  have e5 := nI_6 k 5 5 (by decide)
  have v5 : vp_in (nI (6 * k + 5)) L := vp_in_nI (by omega) (by omega)
  have c5 : (nI (6 * k + 5)).toNatClampNeg = 6 * k + 5 := nI_clamp (by omega)
  have ha2 : a ≤ 600000 := by omega
  have hb2 : b ≤ 7302250 := by omega
  rw [h_law L 23]
  simp only [am_run_z, am_run_s, bt, lf, am_in, am_ar, am_fit, am_ld, am_ct, Nat.reduceLT, Nat.reduceEqDiff, reduceIte, Nat.reduceAdd, Nat.reduceLeDiff, Nat.reduceSub, Bool.false_eq_true, if_true, if_false, ite_true, ite_false, List.length_cons, List.length_nil, Nat.zero_add, Nat.add_zero, and_true, true_and, true_or, or_true, and_self, Nat.le_refl, Nat.lt_irrefl, gI_sI, gL_sL, gQ_sQ, gI_sJ, gI_sL, gI_sQ, gL_sI, gL_sQ, gL_sJ, gQ_sI, gQ_sL, gQ_sJ, gN_sI, gN_sL, gN_sQ, gN_sJ, E_b2_0, E_cI_a, E_cI_b, E_cV_a, E_cV_b, E_c_0, E_dup_0, E_dup_1, E_i2l_0, E_inc_a, E_inc_b, E_je_0, E_jg_0, E_jmp_0, E_jz_0, E_kk, E_l2_0, E_lcmp_0, E_ldI_a, E_ldI_b, E_ldR_a, E_ldR_b, E_lsh_0, E_new_0, E_rZ_0, E_sld_0, E_slen_0, E_stI_0, E_stR_0, E_sw_0, Nat.reduceDiv, am_cc, am_nl, am_ok, am_pop, am_rt, am_set, am_v, am_vo, am_vs, cC_11, cC_12, gI_sO, gL_sO, gN_sO, gQ_sO, nN_10, nN_3, kL_law, kL_law_2, kL_law_3, e1, v1, c1, e2, v2, c2, e3, v3, c3, e4, v4, c4, e5, v5, c5, ha2, hb2, true_or]
  refine MM_mo _ _ _ _ _ ?_ (api_value _ _ k σ hk hI)
  intro r σ1 h ro
  simp only [am_run_z, E_kk, Nat.add_zero]
  have hct := ct_rt r
  generalize hst : am_rt r [] = st0 at hct ⊢
  have hc8 : am_ct st0 ≤ 8 := by omega
  have hc8_1 : 1 + am_ct st0 ≤ 8 := by omega
  have hc8_2 : 2 + am_ct st0 ≤ 8 := by omega
  have hc8_3 : 3 + am_ct st0 ≤ 8 := by omega
  have hc8_4 : 4 + am_ct st0 ≤ 8 := by omega
  have hc8_5 : 5 + am_ct st0 ≤ 8 := by omega
  have hc8_6 : 6 + am_ct st0 ≤ 8 := by omega
  have sc : ∀ j, gI σ1 20 j = gI σ 20 j := ro.1
  have ha3 : a + 0 ≤ 600000 := by omega
  have hb3 : b + 0 ≤ 7302250 := by omega
  rw [h_law L 24]
  simp only [am_run_z, am_run_s, bt, lf, am_in, am_ar, am_fit, am_ld, am_ct, Nat.reduceLT, Nat.reduceEqDiff, reduceIte, Nat.reduceAdd, Nat.reduceLeDiff, Nat.reduceSub, Bool.false_eq_true, if_true, if_false, ite_true, ite_false, List.length_cons, List.length_nil, Nat.zero_add, Nat.add_zero, and_true, true_and, true_or, or_true, and_self, Nat.le_refl, Nat.lt_irrefl, gI_sI, gL_sL, gQ_sQ, gI_sJ, gI_sL, gI_sQ, gL_sI, gL_sQ, gL_sJ, gQ_sI, gQ_sL, gQ_sJ, gN_sI, gN_sL, gN_sQ, gN_sJ, E_b2_0, E_cI_a, E_cI_b, E_cV_a, E_cV_b, E_c_0, E_dup_0, E_dup_1, E_i2l_0, E_inc_a, E_inc_b, E_je_0, E_jg_0, E_jmp_0, E_jz_0, E_kk, E_l2_0, E_lcmp_0, E_ldI_a, E_ldI_b, E_ldR_a, E_ldR_b, E_lsh_0, E_new_0, E_rZ_0, E_sld_0, E_slen_0, E_stI_0, E_stR_0, E_sw_0, Nat.reduceDiv, am_cc, am_nl, am_ok, am_pop, am_rt, am_set, am_v, am_vo, am_vs, cC_11, cC_12, gI_sO, gL_sO, gN_sO, gQ_sO, nN_10, nN_3, kL_law, kL_law_16, kL_law_3, e1, v1, c1, e2, v2, c2, e3, v3, c3, e4, v4, c4, e5, v5, c5, hc8, hc8_1, hc8_2, hc8_3, hc8_4, hc8_5, hc8_6, sc, ha3, hb3, ha2, hb2, true_or]
  refine MM_mo _ _ _ _ _ ?_ h
  intro r2 σ2 hh ro2
  obtain ⟨⟨v, e1', e2'⟩, hI2⟩ := hh
  subst e1'
  subst e2'
  subst hst
  simp only [am_run_z, E_kk, am_rt, am_run_s, bt, lf, am_in, am_ar, am_fit, am_ld, am_ct, Nat.reduceLT, Nat.reduceEqDiff, reduceIte, Nat.reduceAdd, Nat.reduceLeDiff, Nat.reduceSub, Bool.false_eq_true, if_true, if_false, ite_true, ite_false, List.length_cons, List.length_nil, Nat.zero_add, Nat.add_zero, and_true, true_and, true_or, or_true, and_self, Nat.le_refl, Nat.lt_irrefl, gI_sI, gL_sL, gQ_sQ, gI_sJ, gI_sL, gI_sQ, gL_sI, gL_sQ, gL_sJ, gQ_sI, gQ_sL, gQ_sJ, gN_sI, gN_sL, gN_sQ, gN_sJ, E_b2_0, E_cI_a, E_cI_b, E_cV_a, E_cV_b, E_c_0, E_dup_0, E_dup_1, E_i2l_0, E_inc_a, E_inc_b, E_je_0, E_jg_0, E_jmp_0, E_jz_0, E_kk, E_l2_0, E_lcmp_0, E_ldI_a, E_ldI_b, E_ldR_a, E_ldR_b, E_lsh_0, E_new_0, E_rZ_0, E_sld_0, E_slen_0, E_stI_0, E_stR_0, E_sw_0, Nat.reduceDiv, am_cc, am_nl, am_ok, am_pop, am_rt, am_set, am_v, am_vo, am_vs, cC_11, cC_12, gI_sO, gL_sO, gN_sO, gQ_sO, nN_10, nN_3, kL_law, kL_law_16, kL_law_3]
  exact l_next (hX σ2 _ _ hI2 (by omega) (by omega))
theorem law_rank {L k a b : Nat} {σ : HS} {Q : PO} (hk : k < 512) (hL : 6 * k + 6 ≤ L) (hL2 : L ≤ 3072) (hI : Inv k σ) (ha : a + 1 ≤ 600000) (hb : b + 18 ≤ 7302250) (hX : ∀ σ' a' b', Inv (k + 1) σ' → a' ≤ a + 1 → b' ≤ b + 18 → am_T (KL S1 L) MR Q 18 (lsL (k + 1)) [] σ' a' b') : am_T (KL S1 L) MR Q 405 (lsL k) [] σ a b := by
  have e1 := nI_6 k 1 1 (by decide)
  have v1 : vp_in (nI (6 * k + 1)) L := vp_in_nI (by omega) (by omega)
  have c1 : (nI (6 * k + 1)).toNatClampNeg = 6 * k + 1 := nI_clamp (by omega)
  have e2 := nI_6 k 2 2 (by decide)
  have v2 : vp_in (nI (6 * k + 2)) L := vp_in_nI (by omega) (by omega)
  have c2 : (nI (6 * k + 2)).toNatClampNeg = 6 * k + 2 := nI_clamp (by omega)
  have e3 := nI_6 k 3 3 (by decide)
  have v3 : vp_in (nI (6 * k + 3)) L := vp_in_nI (by omega) (by omega)
  have c3 : (nI (6 * k + 3)).toNatClampNeg = 6 * k + 3 := nI_clamp (by omega)
  have e4 := nI_6 k 4 4 (by decide)
  have v4 : vp_in (nI (6 * k + 4)) L := vp_in_nI (by omega) (by omega)
  have c4 : (nI (6 * k + 4)).toNatClampNeg = 6 * k + 4 := nI_clamp (by omega)
  have e5 := nI_6 k 5 5 (by decide)
  have v5 : vp_in (nI (6 * k + 5)) L := vp_in_nI (by omega) (by omega)
  have c5 : (nI (6 * k + 5)).toNatClampNeg = 6 * k + 5 := nI_clamp (by omega)
  have ha2 : a ≤ 600000 := by omega
  have hb2 : b ≤ 7302250 := by omega
  rw [h_law L 11]
  simp only [am_run_z, am_run_s, bt, lf, am_in, am_ar, am_fit, am_ld, am_ct, Nat.reduceLT, Nat.reduceEqDiff, reduceIte, Nat.reduceAdd, Nat.reduceLeDiff, Nat.reduceSub, Bool.false_eq_true, if_true, if_false, ite_true, ite_false, List.length_cons, List.length_nil, Nat.zero_add, Nat.add_zero, and_true, true_and, true_or, or_true, and_self, Nat.le_refl, Nat.lt_irrefl, gI_sI, gL_sL, gQ_sQ, gI_sJ, gI_sL, gI_sQ, gL_sI, gL_sQ, gL_sJ, gQ_sI, gQ_sL, gQ_sJ, gN_sI, gN_sL, gN_sQ, gN_sJ, E_b2_0, E_cI_a, E_cI_b, E_cV_a, E_cV_b, E_c_0, E_dup_0, E_dup_1, E_i2l_0, E_inc_a, E_inc_b, E_je_0, E_jg_0, E_jmp_0, E_jz_0, E_kk, E_l2_0, E_lcmp_0, E_ldI_a, E_ldI_b, E_ldR_a, E_ldR_b, E_lsh_0, E_new_0, E_rZ_0, E_sld_0, E_slen_0, E_stI_0, E_stR_0, E_sw_0, Nat.reduceDiv, am_cc, am_nl, am_ok, am_pop, am_rt, am_set, am_v, am_vo, am_vs, cC_11, cC_12, gI_sO, gL_sO, gN_sO, gQ_sO, nN_10, nN_3, kL_law, kL_law_3, kL_law_4, e1, v1, c1, e2, v2, c2, e3, v3, c3, e4, v4, c4, e5, v5, c5, ha2, hb2, true_or]
  refine MM_mo _ _ _ _ _ ?_ (api_rank _ _ k σ hk hI)
  intro r σ1 h ro
  simp only [am_run_z, E_kk, Nat.add_zero]
  have hct := ct_rt r
  generalize hst : am_rt r [] = st0 at hct ⊢
  have hc8 : am_ct st0 ≤ 8 := by omega
  have hc8_1 : 1 + am_ct st0 ≤ 8 := by omega
  have hc8_2 : 2 + am_ct st0 ≤ 8 := by omega
  have hc8_3 : 3 + am_ct st0 ≤ 8 := by omega
  have hc8_4 : 4 + am_ct st0 ≤ 8 := by omega
  have hc8_5 : 5 + am_ct st0 ≤ 8 := by omega
  have hc8_6 : 6 + am_ct st0 ≤ 8 := by omega
  have sc : ∀ j, gI σ1 20 j = gI σ 20 j := ro.1
  have ha3 : a + 0 ≤ 600000 := by omega
  have hb3 : b + 0 ≤ 7302250 := by omega
  rw [h_law L 12]
  simp only [am_run_z, am_run_s, bt, lf, am_in, am_ar, am_fit, am_ld, am_ct, Nat.reduceLT, Nat.reduceEqDiff, reduceIte, Nat.reduceAdd, Nat.reduceLeDiff, Nat.reduceSub, Bool.false_eq_true, if_true, if_false, ite_true, ite_false, List.length_cons, List.length_nil, Nat.zero_add, Nat.add_zero, and_true, true_and, true_or, or_true, and_self, Nat.le_refl, Nat.lt_irrefl, gI_sI, gL_sL, gQ_sQ, gI_sJ, gI_sL, gI_sQ, gL_sI, gL_sQ, gL_sJ, gQ_sI, gQ_sL, gQ_sJ, gN_sI, gN_sL, gN_sQ, gN_sJ, E_b2_0, E_cI_a, E_cI_b, E_cV_a, E_cV_b, E_c_0, E_dup_0, E_dup_1, E_i2l_0, E_inc_a, E_inc_b, E_je_0, E_jg_0, E_jmp_0, E_jz_0, E_kk, E_l2_0, E_lcmp_0, E_ldI_a, E_ldI_b, E_ldR_a, E_ldR_b, E_lsh_0, E_new_0, E_rZ_0, E_sld_0, E_slen_0, E_stI_0, E_stR_0, E_sw_0, Nat.reduceDiv, am_cc, am_nl, am_ok, am_pop, am_rt, am_set, am_v, am_vo, am_vs, cC_11, cC_12, gI_sO, gL_sO, gN_sO, gQ_sO, nN_10, nN_3, kL_law, kL_law_16, kL_law_4, e1, v1, c1, e2, v2, c2, e3, v3, c3, e4, v4, c4, e5, v5, c5, hc8, hc8_1, hc8_2, hc8_3, hc8_4, hc8_5, hc8_6, sc, ha3, hb3, ha2, hb2, true_or]
  refine MM_mo _ _ _ _ _ ?_ h
  intro r2 σ2 hh ro2
  obtain ⟨⟨v, e1', e2'⟩, hI2⟩ := hh
  subst e1'
  subst e2'
  subst hst
  simp only [am_run_z, E_kk, am_rt, am_run_s, bt, lf, am_in, am_ar, am_fit, am_ld, am_ct, Nat.reduceLT, Nat.reduceEqDiff, reduceIte, Nat.reduceAdd, Nat.reduceLeDiff, Nat.reduceSub, Bool.false_eq_true, if_true, if_false, ite_true, ite_false, List.length_cons, List.length_nil, Nat.zero_add, Nat.add_zero, and_true, true_and, true_or, or_true, and_self, Nat.le_refl, Nat.lt_irrefl, gI_sI, gL_sL, gQ_sQ, gI_sJ, gI_sL, gI_sQ, gL_sI, gL_sQ, gL_sJ, gQ_sI, gQ_sL, gQ_sJ, gN_sI, gN_sL, gN_sQ, gN_sJ, E_b2_0, E_cI_a, E_cI_b, E_cV_a, E_cV_b, E_c_0, E_dup_0, E_dup_1, E_i2l_0, E_inc_a, E_inc_b, E_je_0, E_jg_0, E_jmp_0, E_jz_0, E_kk, E_l2_0, E_lcmp_0, E_ldI_a, E_ldI_b, E_ldR_a, E_ldR_b, E_lsh_0, E_new_0, E_rZ_0, E_sld_0, E_slen_0, E_stI_0, E_stR_0, E_sw_0, Nat.reduceDiv, am_cc, am_nl, am_ok, am_pop, am_rt, am_set, am_v, am_vo, am_vs, cC_11, cC_12, gI_sO, gL_sO, gN_sO, gQ_sO, nN_10, nN_3, kL_law, kL_law_16, kL_law_4]
  exact l_next (hX σ2 _ _ hI2 (by omega) (by omega))
theorem law_of {L k a b : Nat} {σ : HS} {Q : PO} (hk : k < 512) (hL : 6 * k + 6 ≤ L) (hL2 : L ≤ 3072) (hI : Inv k σ) (ha : a + 1 ≤ 600000) (hb : b + 18 ≤ 7302250) (hX : ∀ σ' a' b', Inv (k + 1) σ' → a' ≤ a + 1 → b' ≤ b + 18 → am_T (KL S1 L) MR Q 18 (lsL (k + 1)) [] σ' a' b') : am_T (KL S1 L) MR Q 438 (lsL k) [] σ a b := by
  have e1 := nI_6 k 1 1 (by decide)
  have v1 : vp_in (nI (6 * k + 1)) L := vp_in_nI (by omega) (by omega)
  have c1 : (nI (6 * k + 1)).toNatClampNeg = 6 * k + 1 := nI_clamp (by omega)
  have e2 := nI_6 k 2 2 (by decide)
  have v2 : vp_in (nI (6 * k + 2)) L := vp_in_nI (by omega) (by omega)
  have c2 : (nI (6 * k + 2)).toNatClampNeg = 6 * k + 2 := nI_clamp (by omega)
  have e3 := nI_6 k 3 3 (by decide)
  have v3 : vp_in (nI (6 * k + 3)) L := vp_in_nI (by omega) (by omega)
  have c3 : (nI (6 * k + 3)).toNatClampNeg = 6 * k + 3 := nI_clamp (by omega)
  have e4 := nI_6 k 4 4 (by decide)
  have v4 : vp_in (nI (6 * k + 4)) L := vp_in_nI (by omega) (by omega)
  have c4 : (nI (6 * k + 4)).toNatClampNeg = 6 * k + 4 := nI_clamp (by omega)
  have e5 := nI_6 k 5 5 (by decide)
  have v5 : vp_in (nI (6 * k + 5)) L := vp_in_nI (by omega) (by omega)
  have c5 : (nI (6 * k + 5)).toNatClampNeg = 6 * k + 5 := nI_clamp (by omega)
  have ha2 : a ≤ 600000 := by omega
  have hb2 : b ≤ 7302250 := by omega
  rw [h_law L 11]
  simp only [am_run_z, am_run_s, bt, lf, am_in, am_ar, am_fit, am_ld, am_ct, Nat.reduceLT, Nat.reduceEqDiff, reduceIte, Nat.reduceAdd, Nat.reduceLeDiff, Nat.reduceSub, Bool.false_eq_true, if_true, if_false, ite_true, ite_false, List.length_cons, List.length_nil, Nat.zero_add, Nat.add_zero, and_true, true_and, true_or, or_true, and_self, Nat.le_refl, Nat.lt_irrefl, gI_sI, gL_sL, gQ_sQ, gI_sJ, gI_sL, gI_sQ, gL_sI, gL_sQ, gL_sJ, gQ_sI, gQ_sL, gQ_sJ, gN_sI, gN_sL, gN_sQ, gN_sJ, E_b2_0, E_cI_a, E_cI_b, E_cV_a, E_cV_b, E_c_0, E_dup_0, E_dup_1, E_i2l_0, E_inc_a, E_inc_b, E_je_0, E_jg_0, E_jmp_0, E_jz_0, E_kk, E_l2_0, E_lcmp_0, E_ldI_a, E_ldI_b, E_ldR_a, E_ldR_b, E_lsh_0, E_new_0, E_rZ_0, E_sld_0, E_slen_0, E_stI_0, E_stR_0, E_sw_0, Nat.reduceDiv, am_cc, am_nl, am_ok, am_pop, am_rt, am_set, am_v, am_vo, am_vs, cC_11, cC_12, gI_sO, gL_sO, gN_sO, gQ_sO, nN_10, nN_3, kL_law, kL_law_4, e1, v1, c1, e2, v2, c2, e3, v3, c3, e4, v4, c4, e5, v5, c5, ha2, hb2, true_or]
  refine MM_mo _ _ _ _ _ ?_ (api_of _ _ k σ hk hI)
  intro r σ1 h ro
  simp only [am_run_z, E_kk, Nat.add_zero]
  have hct := ct_rt r
  generalize hst : am_rt r [] = st0 at hct ⊢
  have hc8 : am_ct st0 ≤ 8 := by omega
  have hc8_1 : 1 + am_ct st0 ≤ 8 := by omega
  have hc8_2 : 2 + am_ct st0 ≤ 8 := by omega
  have hc8_3 : 3 + am_ct st0 ≤ 8 := by omega
  have hc8_4 : 4 + am_ct st0 ≤ 8 := by omega
  have hc8_5 : 5 + am_ct st0 ≤ 8 := by omega
  have hc8_6 : 6 + am_ct st0 ≤ 8 := by omega
  have sc : ∀ j, gI σ1 20 j = gI σ 20 j := ro.1
  have ha3 : a + 0 ≤ 600000 := by omega
  have hb3 : b + 0 ≤ 7302250 := by omega
  rw [h_law L 12]
  simp only [am_run_z, am_run_s, bt, lf, am_in, am_ar, am_fit, am_ld, am_ct, Nat.reduceLT, Nat.reduceEqDiff, reduceIte, Nat.reduceAdd, Nat.reduceLeDiff, Nat.reduceSub, Bool.false_eq_true, if_true, if_false, ite_true, ite_false, List.length_cons, List.length_nil, Nat.zero_add, Nat.add_zero, and_true, true_and, true_or, or_true, and_self, Nat.le_refl, Nat.lt_irrefl, gI_sI, gL_sL, gQ_sQ, gI_sJ, gI_sL, gI_sQ, gL_sI, gL_sQ, gL_sJ, gQ_sI, gQ_sL, gQ_sJ, gN_sI, gN_sL, gN_sQ, gN_sJ, E_b2_0, E_cI_a, E_cI_b, E_cV_a, E_cV_b, E_c_0, E_dup_0, E_dup_1, E_i2l_0, E_inc_a, E_inc_b, E_je_0, E_jg_0, E_jmp_0, E_jz_0, E_kk, E_l2_0, E_lcmp_0, E_ldI_a, E_ldI_b, E_ldR_a, E_ldR_b, E_lsh_0, E_new_0, E_rZ_0, E_sld_0, E_slen_0, E_stI_0, E_stR_0, E_sw_0, Nat.reduceDiv, am_cc, am_nl, am_ok, am_pop, am_rt, am_set, am_v, am_vo, am_vs, cC_11, cC_12, gI_sO, gL_sO, gN_sO, gQ_sO, nN_10, nN_3, kL_law, kL_law_16, kL_law_4, kL_law_5, e1, v1, c1, e2, v2, c2, e3, v3, c3, e4, v4, c4, e5, v5, c5, hc8, hc8_1, hc8_2, hc8_3, hc8_4, hc8_5, hc8_6, sc, ha3, hb3, ha2, hb2, true_or]
  refine MM_mo _ _ _ _ _ ?_ h
  intro r2 σ2 hh ro2
  obtain ⟨⟨v, e1', e2'⟩, hI2⟩ := hh
  subst e1'
  subst e2'
  subst hst
  simp only [am_run_z, E_kk, am_rt, am_run_s, bt, lf, am_in, am_ar, am_fit, am_ld, am_ct, Nat.reduceLT, Nat.reduceEqDiff, reduceIte, Nat.reduceAdd, Nat.reduceLeDiff, Nat.reduceSub, Bool.false_eq_true, if_true, if_false, ite_true, ite_false, List.length_cons, List.length_nil, Nat.zero_add, Nat.add_zero, and_true, true_and, true_or, or_true, and_self, Nat.le_refl, Nat.lt_irrefl, gI_sI, gL_sL, gQ_sQ, gI_sJ, gI_sL, gI_sQ, gL_sI, gL_sQ, gL_sJ, gQ_sI, gQ_sL, gQ_sJ, gN_sI, gN_sL, gN_sQ, gN_sJ, E_b2_0, E_cI_a, E_cI_b, E_cV_a, E_cV_b, E_c_0, E_dup_0, E_dup_1, E_i2l_0, E_inc_a, E_inc_b, E_je_0, E_jg_0, E_jmp_0, E_jz_0, E_kk, E_l2_0, E_lcmp_0, E_ldI_a, E_ldI_b, E_ldR_a, E_ldR_b, E_lsh_0, E_new_0, E_rZ_0, E_sld_0, E_slen_0, E_stI_0, E_stR_0, E_sw_0, Nat.reduceDiv, am_cc, am_nl, am_ok, am_pop, am_rt, am_set, am_v, am_vo, am_vs, cC_11, cC_12, gI_sO, gL_sO, gN_sO, gQ_sO, nN_10, nN_3, kL_law, kL_law_16, kL_law_4, kL_law_5]
  exact l_next (hX σ2 _ _ hI2 (by omega) (by omega))
theorem law_about {L k a b : Nat} {σ : HS} {Q : PO} (hk : k < 512) (hL : 6 * k + 6 ≤ L) (hL2 : L ≤ 3072) (hI : Inv k σ) (ha : a + 1 ≤ 600000) (hb : b + 18 ≤ 7302250) (hX : ∀ σ' a' b', Inv (k + 1) σ' → a' ≤ a + 1 → b' ≤ b + 18 → am_T (KL S1 L) MR Q 18 (lsL (k + 1)) [] σ' a' b') : am_T (KL S1 L) MR Q 471 (lsL k) [] σ a b := by
  have e1 := nI_6 k 1 1 (by decide)
  have v1 : vp_in (nI (6 * k + 1)) L := vp_in_nI (by omega) (by omega)
  have c1 : (nI (6 * k + 1)).toNatClampNeg = 6 * k + 1 := nI_clamp (by omega)
  have e2 := nI_6 k 2 2 (by decide)
  have v2 : vp_in (nI (6 * k + 2)) L := vp_in_nI (by omega) (by omega)
  have c2 : (nI (6 * k + 2)).toNatClampNeg = 6 * k + 2 := nI_clamp (by omega)
  have e3 := nI_6 k 3 3 (by decide)
  have v3 : vp_in (nI (6 * k + 3)) L := vp_in_nI (by omega) (by omega)
  have c3 : (nI (6 * k + 3)).toNatClampNeg = 6 * k + 3 := nI_clamp (by omega)
  have e4 := nI_6 k 4 4 (by decide)
  have v4 : vp_in (nI (6 * k + 4)) L := vp_in_nI (by omega) (by omega)
  have c4 : (nI (6 * k + 4)).toNatClampNeg = 6 * k + 4 := nI_clamp (by omega)
  have e5 := nI_6 k 5 5 (by decide)
  have v5 : vp_in (nI (6 * k + 5)) L := vp_in_nI (by omega) (by omega)
  have c5 : (nI (6 * k + 5)).toNatClampNeg = 6 * k + 5 := nI_clamp (by omega)
  have ha2 : a ≤ 600000 := by omega
  have hb2 : b ≤ 7302250 := by omega
  rw [h_law L 11]
  simp only [am_run_z, am_run_s, bt, lf, am_in, am_ar, am_fit, am_ld, am_ct, Nat.reduceLT, Nat.reduceEqDiff, reduceIte, Nat.reduceAdd, Nat.reduceLeDiff, Nat.reduceSub, Bool.false_eq_true, if_true, if_false, ite_true, ite_false, List.length_cons, List.length_nil, Nat.zero_add, Nat.add_zero, and_true, true_and, true_or, or_true, and_self, Nat.le_refl, Nat.lt_irrefl, gI_sI, gL_sL, gQ_sQ, gI_sJ, gI_sL, gI_sQ, gL_sI, gL_sQ, gL_sJ, gQ_sI, gQ_sL, gQ_sJ, gN_sI, gN_sL, gN_sQ, gN_sJ, E_b2_0, E_cI_a, E_cI_b, E_cV_a, E_cV_b, E_c_0, E_dup_0, E_dup_1, E_i2l_0, E_inc_a, E_inc_b, E_je_0, E_jg_0, E_jmp_0, E_jz_0, E_kk, E_l2_0, E_lcmp_0, E_ldI_a, E_ldI_b, E_ldR_a, E_ldR_b, E_lsh_0, E_new_0, E_rZ_0, E_sld_0, E_slen_0, E_stI_0, E_stR_0, E_sw_0, Nat.reduceDiv, am_cc, am_nl, am_ok, am_pop, am_rt, am_set, am_v, am_vo, am_vs, cC_11, cC_12, gI_sO, gL_sO, gN_sO, gQ_sO, nN_10, nN_3, kL_law, kL_law_5, e1, v1, c1, e2, v2, c2, e3, v3, c3, e4, v4, c4, e5, v5, c5, ha2, hb2, true_or]
  refine MM_mo _ _ _ _ _ ?_ (api_about _ _ k σ hk hI)
  intro r σ1 h ro
  simp only [am_run_z, E_kk, Nat.add_zero]
  have hct := ct_rt r
  generalize hst : am_rt r [] = st0 at hct ⊢
  have hc8 : am_ct st0 ≤ 8 := by omega
  have hc8_1 : 1 + am_ct st0 ≤ 8 := by omega
  have hc8_2 : 2 + am_ct st0 ≤ 8 := by omega
  have hc8_3 : 3 + am_ct st0 ≤ 8 := by omega
  have hc8_4 : 4 + am_ct st0 ≤ 8 := by omega
  have hc8_5 : 5 + am_ct st0 ≤ 8 := by omega
  have hc8_6 : 6 + am_ct st0 ≤ 8 := by omega
  have sc : ∀ j, gI σ1 20 j = gI σ 20 j := ro.1
  have ha3 : a + 0 ≤ 600000 := by omega
  have hb3 : b + 0 ≤ 7302250 := by omega
  rw [h_law L 12]
  simp only [am_run_z, am_run_s, bt, lf, am_in, am_ar, am_fit, am_ld, am_ct, Nat.reduceLT, Nat.reduceEqDiff, reduceIte, Nat.reduceAdd, Nat.reduceLeDiff, Nat.reduceSub, Bool.false_eq_true, if_true, if_false, ite_true, ite_false, List.length_cons, List.length_nil, Nat.zero_add, Nat.add_zero, and_true, true_and, true_or, or_true, and_self, Nat.le_refl, Nat.lt_irrefl, gI_sI, gL_sL, gQ_sQ, gI_sJ, gI_sL, gI_sQ, gL_sI, gL_sQ, gL_sJ, gQ_sI, gQ_sL, gQ_sJ, gN_sI, gN_sL, gN_sQ, gN_sJ, E_b2_0, E_cI_a, E_cI_b, E_cV_a, E_cV_b, E_c_0, E_dup_0, E_dup_1, E_i2l_0, E_inc_a, E_inc_b, E_je_0, E_jg_0, E_jmp_0, E_jz_0, E_kk, E_l2_0, E_lcmp_0, E_ldI_a, E_ldI_b, E_ldR_a, E_ldR_b, E_lsh_0, E_new_0, E_rZ_0, E_sld_0, E_slen_0, E_stI_0, E_stR_0, E_sw_0, Nat.reduceDiv, am_cc, am_nl, am_ok, am_pop, am_rt, am_set, am_v, am_vo, am_vs, cC_11, cC_12, gI_sO, gL_sO, gN_sO, gQ_sO, nN_10, nN_3, kL_law, kL_law_16, kL_law_5, e1, v1, c1, e2, v2, c2, e3, v3, c3, e4, v4, c4, e5, v5, c5, hc8, hc8_1, hc8_2, hc8_3, hc8_4, hc8_5, hc8_6, sc, ha3, hb3, ha2, hb2, true_or]
  refine MM_mo _ _ _ _ _ ?_ h
  intro r2 σ2 hh ro2
  obtain ⟨⟨v, e1', e2'⟩, hI2⟩ := hh
  subst e1'
  subst e2'
  subst hst
  simp only [am_run_z, E_kk, am_rt, am_run_s, bt, lf, am_in, am_ar, am_fit, am_ld, am_ct, Nat.reduceLT, Nat.reduceEqDiff, reduceIte, Nat.reduceAdd, Nat.reduceLeDiff, Nat.reduceSub, Bool.false_eq_true, if_true, if_false, ite_true, ite_false, List.length_cons, List.length_nil, Nat.zero_add, Nat.add_zero, and_true, true_and, true_or, or_true, and_self, Nat.le_refl, Nat.lt_irrefl, gI_sI, gL_sL, gQ_sQ, gI_sJ, gI_sL, gI_sQ, gL_sI, gL_sQ, gL_sJ, gQ_sI, gQ_sL, gQ_sJ, gN_sI, gN_sL, gN_sQ, gN_sJ, E_b2_0, E_cI_a, E_cI_b, E_cV_a, E_cV_b, E_c_0, E_dup_0, E_dup_1, E_i2l_0, E_inc_a, E_inc_b, E_je_0, E_jg_0, E_jmp_0, E_jz_0, E_kk, E_l2_0, E_lcmp_0, E_ldI_a, E_ldI_b, E_ldR_a, E_ldR_b, E_lsh_0, E_new_0, E_rZ_0, E_sld_0, E_slen_0, E_stI_0, E_stR_0, E_sw_0, Nat.reduceDiv, am_cc, am_nl, am_ok, am_pop, am_rt, am_set, am_v, am_vo, am_vs, cC_11, cC_12, gI_sO, gL_sO, gN_sO, gQ_sO, nN_10, nN_3, kL_law, kL_law_16, kL_law_5]
  exact l_next (hX σ2 _ _ hI2 (by omega) (by omega))
theorem law_size {L k a b : Nat} {σ : HS} {Q : PO} (hk : k < 512) (hL : 6 * k + 6 ≤ L) (hL2 : L ≤ 3072) (hI : Inv k σ) (ha : a + 1 ≤ 600000) (hb : b + 18 ≤ 7302250) (hX : ∀ σ' a' b', Inv (k + 1) σ' → a' ≤ a + 1 → b' ≤ b + 18 → am_T (KL S1 L) MR Q 18 (lsL (k + 1)) [] σ' a' b') : am_T (KL S1 L) MR Q 504 (lsL k) [] σ a b := by
  have e1 := nI_6 k 1 1 (by decide)
  have v1 : vp_in (nI (6 * k + 1)) L := vp_in_nI (by omega) (by omega)
  have c1 : (nI (6 * k + 1)).toNatClampNeg = 6 * k + 1 := nI_clamp (by omega)
  have e2 := nI_6 k 2 2 (by decide)
  have v2 : vp_in (nI (6 * k + 2)) L := vp_in_nI (by omega) (by omega)
  have c2 : (nI (6 * k + 2)).toNatClampNeg = 6 * k + 2 := nI_clamp (by omega)
  have e3 := nI_6 k 3 3 (by decide)
  have v3 : vp_in (nI (6 * k + 3)) L := vp_in_nI (by omega) (by omega)
  have c3 : (nI (6 * k + 3)).toNatClampNeg = 6 * k + 3 := nI_clamp (by omega)
  have e4 := nI_6 k 4 4 (by decide)
  have v4 : vp_in (nI (6 * k + 4)) L := vp_in_nI (by omega) (by omega)
  have c4 : (nI (6 * k + 4)).toNatClampNeg = 6 * k + 4 := nI_clamp (by omega)
  have e5 := nI_6 k 5 5 (by decide)
  have v5 : vp_in (nI (6 * k + 5)) L := vp_in_nI (by omega) (by omega)
  have c5 : (nI (6 * k + 5)).toNatClampNeg = 6 * k + 5 := nI_clamp (by omega)
  have ha2 : a ≤ 600000 := by omega
  have hb2 : b ≤ 7302250 := by omega
  rw [h_law L 6]
  simp only [am_run_z, am_run_s, bt, lf, am_in, am_ar, am_fit, am_ld, am_ct, Nat.reduceLT, Nat.reduceEqDiff, reduceIte, Nat.reduceAdd, Nat.reduceLeDiff, Nat.reduceSub, Bool.false_eq_true, if_true, if_false, ite_true, ite_false, List.length_cons, List.length_nil, Nat.zero_add, Nat.add_zero, and_true, true_and, true_or, or_true, and_self, Nat.le_refl, Nat.lt_irrefl, gI_sI, gL_sL, gQ_sQ, gI_sJ, gI_sL, gI_sQ, gL_sI, gL_sQ, gL_sJ, gQ_sI, gQ_sL, gQ_sJ, gN_sI, gN_sL, gN_sQ, gN_sJ, E_b2_0, E_cI_a, E_cI_b, E_cV_a, E_cV_b, E_c_0, E_dup_0, E_dup_1, E_i2l_0, E_inc_a, E_inc_b, E_je_0, E_jg_0, E_jmp_0, E_jz_0, E_kk, E_l2_0, E_lcmp_0, E_ldI_a, E_ldI_b, E_ldR_a, E_ldR_b, E_lsh_0, E_new_0, E_rZ_0, E_sld_0, E_slen_0, E_stI_0, E_stR_0, E_sw_0, Nat.reduceDiv, am_cc, am_nl, am_ok, am_pop, am_rt, am_set, am_v, am_vo, am_vs, cC_11, cC_12, gI_sO, gL_sO, gN_sO, gQ_sO, nN_10, nN_3, kL_law, kL_law_5, e1, v1, c1, e2, v2, c2, e3, v3, c3, e4, v4, c4, e5, v5, c5, ha2, hb2, true_or]
  refine MM_mo _ _ _ _ _ ?_ (api_size _ k σ hk hI)
  intro r σ1 h ro
  simp only [am_run_z, E_kk, Nat.add_zero]
  have hct := ct_rt r
  generalize hst : am_rt r [] = st0 at hct ⊢
  have hc8 : am_ct st0 ≤ 8 := by omega
  have hc8_1 : 1 + am_ct st0 ≤ 8 := by omega
  have hc8_2 : 2 + am_ct st0 ≤ 8 := by omega
  have hc8_3 : 3 + am_ct st0 ≤ 8 := by omega
  have hc8_4 : 4 + am_ct st0 ≤ 8 := by omega
  have hc8_5 : 5 + am_ct st0 ≤ 8 := by omega
  have hc8_6 : 6 + am_ct st0 ≤ 8 := by omega
  have sc : ∀ j, gI σ1 20 j = gI σ 20 j := ro.1
  have ha3 : a + 0 ≤ 600000 := by omega
  have hb3 : b + 0 ≤ 7302250 := by omega
  rw [h_law L 7]
  simp only [am_run_z, am_run_s, bt, lf, am_in, am_ar, am_fit, am_ld, am_ct, Nat.reduceLT, Nat.reduceEqDiff, reduceIte, Nat.reduceAdd, Nat.reduceLeDiff, Nat.reduceSub, Bool.false_eq_true, if_true, if_false, ite_true, ite_false, List.length_cons, List.length_nil, Nat.zero_add, Nat.add_zero, and_true, true_and, true_or, or_true, and_self, Nat.le_refl, Nat.lt_irrefl, gI_sI, gL_sL, gQ_sQ, gI_sJ, gI_sL, gI_sQ, gL_sI, gL_sQ, gL_sJ, gQ_sI, gQ_sL, gQ_sJ, gN_sI, gN_sL, gN_sQ, gN_sJ, E_b2_0, E_cI_a, E_cI_b, E_cV_a, E_cV_b, E_c_0, E_dup_0, E_dup_1, E_i2l_0, E_inc_a, E_inc_b, E_je_0, E_jg_0, E_jmp_0, E_jz_0, E_kk, E_l2_0, E_lcmp_0, E_ldI_a, E_ldI_b, E_ldR_a, E_ldR_b, E_lsh_0, E_new_0, E_rZ_0, E_sld_0, E_slen_0, E_stI_0, E_stR_0, E_sw_0, Nat.reduceDiv, am_cc, am_nl, am_ok, am_pop, am_rt, am_set, am_v, am_vo, am_vs, cC_11, cC_12, gI_sO, gL_sO, gN_sO, gQ_sO, nN_10, nN_3, kL_law, kL_law_16, kL_law_5, e1, v1, c1, e2, v2, c2, e3, v3, c3, e4, v4, c4, e5, v5, c5, hc8, hc8_1, hc8_2, hc8_3, hc8_4, hc8_5, hc8_6, sc, ha3, hb3, ha2, hb2, true_or]
  refine MM_mo _ _ _ _ _ ?_ h
  intro r2 σ2 hh ro2
  obtain ⟨⟨v, e1', e2'⟩, hI2⟩ := hh
  subst e1'
  subst e2'
  subst hst
  simp only [am_run_z, E_kk, am_rt, am_run_s, bt, lf, am_in, am_ar, am_fit, am_ld, am_ct, Nat.reduceLT, Nat.reduceEqDiff, reduceIte, Nat.reduceAdd, Nat.reduceLeDiff, Nat.reduceSub, Bool.false_eq_true, if_true, if_false, ite_true, ite_false, List.length_cons, List.length_nil, Nat.zero_add, Nat.add_zero, and_true, true_and, true_or, or_true, and_self, Nat.le_refl, Nat.lt_irrefl, gI_sI, gL_sL, gQ_sQ, gI_sJ, gI_sL, gI_sQ, gL_sI, gL_sQ, gL_sJ, gQ_sI, gQ_sL, gQ_sJ, gN_sI, gN_sL, gN_sQ, gN_sJ, E_b2_0, E_cI_a, E_cI_b, E_cV_a, E_cV_b, E_c_0, E_dup_0, E_dup_1, E_i2l_0, E_inc_a, E_inc_b, E_je_0, E_jg_0, E_jmp_0, E_jz_0, E_kk, E_l2_0, E_lcmp_0, E_ldI_a, E_ldI_b, E_ldR_a, E_ldR_b, E_lsh_0, E_new_0, E_rZ_0, E_sld_0, E_slen_0, E_stI_0, E_stR_0, E_sw_0, Nat.reduceDiv, am_cc, am_nl, am_ok, am_pop, am_rt, am_set, am_v, am_vo, am_vs, cC_11, cC_12, gI_sO, gL_sO, gN_sO, gQ_sO, nN_10, nN_3, kL_law, kL_law_16, kL_law_5]
  exact l_next (hX σ2 _ _ hI2 (by omega) (by omega))
theorem law_bit {L k a b : Nat} {σ : HS} {Q : PO} (hk : k < 512) (hL : 6 * k + 6 ≤ L) (hL2 : L ≤ 3072) (hI : Inv k σ) (ha : a + 1 ≤ 600000) (hb : b + 18 ≤ 7302250) (hX : ∀ σ' a' b', Inv (k + 1) σ' → a' ≤ a + 1 → b' ≤ b + 18 → am_T (KL S1 L) MR Q 18 (lsL (k + 1)) [] σ' a' b') : am_T (KL S1 L) MR Q 527 (lsL k) [] σ a b := by
  have e1 := nI_6 k 1 1 (by decide)
  have v1 : vp_in (nI (6 * k + 1)) L := vp_in_nI (by omega) (by omega)
  have c1 : (nI (6 * k + 1)).toNatClampNeg = 6 * k + 1 := nI_clamp (by omega)
  have e2 := nI_6 k 2 2 (by decide)
  have v2 : vp_in (nI (6 * k + 2)) L := vp_in_nI (by omega) (by omega)
  have c2 : (nI (6 * k + 2)).toNatClampNeg = 6 * k + 2 := nI_clamp (by omega)
  have e3 := nI_6 k 3 3 (by decide)
  have v3 : vp_in (nI (6 * k + 3)) L := vp_in_nI (by omega) (by omega)
  have c3 : (nI (6 * k + 3)).toNatClampNeg = 6 * k + 3 := nI_clamp (by omega)
  have e4 := nI_6 k 4 4 (by decide)
  have v4 : vp_in (nI (6 * k + 4)) L := vp_in_nI (by omega) (by omega)
  have c4 : (nI (6 * k + 4)).toNatClampNeg = 6 * k + 4 := nI_clamp (by omega)
  have e5 := nI_6 k 5 5 (by decide)
  have v5 : vp_in (nI (6 * k + 5)) L := vp_in_nI (by omega) (by omega)
  have c5 : (nI (6 * k + 5)).toNatClampNeg = 6 * k + 5 := nI_clamp (by omega)
  have ha2 : a ≤ 600000 := by omega
  have hb2 : b ≤ 7302250 := by omega
  rw [h_law L 11]
  simp only [am_run_z, am_run_s, bt, lf, am_in, am_ar, am_fit, am_ld, am_ct, Nat.reduceLT, Nat.reduceEqDiff, reduceIte, Nat.reduceAdd, Nat.reduceLeDiff, Nat.reduceSub, Bool.false_eq_true, if_true, if_false, ite_true, ite_false, List.length_cons, List.length_nil, Nat.zero_add, Nat.add_zero, and_true, true_and, true_or, or_true, and_self, Nat.le_refl, Nat.lt_irrefl, gI_sI, gL_sL, gQ_sQ, gI_sJ, gI_sL, gI_sQ, gL_sI, gL_sQ, gL_sJ, gQ_sI, gQ_sL, gQ_sJ, gN_sI, gN_sL, gN_sQ, gN_sJ, E_b2_0, E_cI_a, E_cI_b, E_cV_a, E_cV_b, E_c_0, E_dup_0, E_dup_1, E_i2l_0, E_inc_a, E_inc_b, E_je_0, E_jg_0, E_jmp_0, E_jz_0, E_kk, E_l2_0, E_lcmp_0, E_ldI_a, E_ldI_b, E_ldR_a, E_ldR_b, E_lsh_0, E_new_0, E_rZ_0, E_sld_0, E_slen_0, E_stI_0, E_stR_0, E_sw_0, Nat.reduceDiv, am_cc, am_nl, am_ok, am_pop, am_rt, am_set, am_v, am_vo, am_vs, cC_11, cC_12, gI_sO, gL_sO, gN_sO, gQ_sO, nN_10, nN_3, kL_law, kL_law_6, e1, v1, c1, e2, v2, c2, e3, v3, c3, e4, v4, c4, e5, v5, c5, ha2, hb2, true_or]
  refine MM_mo _ _ _ _ _ ?_ (api_bit _ _ k σ hk hI)
  intro r σ1 h ro
  simp only [am_run_z, E_kk, Nat.add_zero]
  have hct := ct_rt r
  generalize hst : am_rt r [] = st0 at hct ⊢
  have hc8 : am_ct st0 ≤ 8 := by omega
  have hc8_1 : 1 + am_ct st0 ≤ 8 := by omega
  have hc8_2 : 2 + am_ct st0 ≤ 8 := by omega
  have hc8_3 : 3 + am_ct st0 ≤ 8 := by omega
  have hc8_4 : 4 + am_ct st0 ≤ 8 := by omega
  have hc8_5 : 5 + am_ct st0 ≤ 8 := by omega
  have hc8_6 : 6 + am_ct st0 ≤ 8 := by omega
  have sc : ∀ j, gI σ1 20 j = gI σ 20 j := ro.1
  have ha3 : a + 0 ≤ 600000 := by omega
  have hb3 : b + 0 ≤ 7302250 := by omega
  rw [h_law L 12]
  simp only [am_run_z, am_run_s, bt, lf, am_in, am_ar, am_fit, am_ld, am_ct, Nat.reduceLT, Nat.reduceEqDiff, reduceIte, Nat.reduceAdd, Nat.reduceLeDiff, Nat.reduceSub, Bool.false_eq_true, if_true, if_false, ite_true, ite_false, List.length_cons, List.length_nil, Nat.zero_add, Nat.add_zero, and_true, true_and, true_or, or_true, and_self, Nat.le_refl, Nat.lt_irrefl, gI_sI, gL_sL, gQ_sQ, gI_sJ, gI_sL, gI_sQ, gL_sI, gL_sQ, gL_sJ, gQ_sI, gQ_sL, gQ_sJ, gN_sI, gN_sL, gN_sQ, gN_sJ, E_b2_0, E_cI_a, E_cI_b, E_cV_a, E_cV_b, E_c_0, E_dup_0, E_dup_1, E_i2l_0, E_inc_a, E_inc_b, E_je_0, E_jg_0, E_jmp_0, E_jz_0, E_kk, E_l2_0, E_lcmp_0, E_ldI_a, E_ldI_b, E_ldR_a, E_ldR_b, E_lsh_0, E_new_0, E_rZ_0, E_sld_0, E_slen_0, E_stI_0, E_stR_0, E_sw_0, Nat.reduceDiv, am_cc, am_nl, am_ok, am_pop, am_rt, am_set, am_v, am_vo, am_vs, cC_11, cC_12, gI_sO, gL_sO, gN_sO, gQ_sO, nN_10, nN_3, kL_law, kL_law_16, kL_law_6, e1, v1, c1, e2, v2, c2, e3, v3, c3, e4, v4, c4, e5, v5, c5, hc8, hc8_1, hc8_2, hc8_3, hc8_4, hc8_5, hc8_6, sc, ha3, hb3, ha2, hb2, true_or]
  refine MM_mo _ _ _ _ _ ?_ h
  intro r2 σ2 hh ro2
  obtain ⟨⟨v, e1', e2'⟩, hI2⟩ := hh
  subst e1'
  subst e2'
  subst hst
  simp only [am_run_z, E_kk, am_rt, am_run_s, bt, lf, am_in, am_ar, am_fit, am_ld, am_ct, Nat.reduceLT, Nat.reduceEqDiff, reduceIte, Nat.reduceAdd, Nat.reduceLeDiff, Nat.reduceSub, Bool.false_eq_true, if_true, if_false, ite_true, ite_false, List.length_cons, List.length_nil, Nat.zero_add, Nat.add_zero, and_true, true_and, true_or, or_true, and_self, Nat.le_refl, Nat.lt_irrefl, gI_sI, gL_sL, gQ_sQ, gI_sJ, gI_sL, gI_sQ, gL_sI, gL_sQ, gL_sJ, gQ_sI, gQ_sL, gQ_sJ, gN_sI, gN_sL, gN_sQ, gN_sJ, E_b2_0, E_cI_a, E_cI_b, E_cV_a, E_cV_b, E_c_0, E_dup_0, E_dup_1, E_i2l_0, E_inc_a, E_inc_b, E_je_0, E_jg_0, E_jmp_0, E_jz_0, E_kk, E_l2_0, E_lcmp_0, E_ldI_a, E_ldI_b, E_ldR_a, E_ldR_b, E_lsh_0, E_new_0, E_rZ_0, E_sld_0, E_slen_0, E_stI_0, E_stR_0, E_sw_0, Nat.reduceDiv, am_cc, am_nl, am_ok, am_pop, am_rt, am_set, am_v, am_vo, am_vs, cC_11, cC_12, gI_sO, gL_sO, gN_sO, gQ_sO, nN_10, nN_3, kL_law, kL_law_16, kL_law_6]
  exact l_next (hX σ2 _ _ hI2 (by omega) (by omega))
theorem law_sum {L k a b : Nat} {σ : HS} {Q : PO} (hk : k < 512) (hL : 6 * k + 6 ≤ L) (hL2 : L ≤ 3072) (hI : Inv k σ) (ha : a + 1 ≤ 600000) (hb : b + 18 ≤ 7302250) (hX : ∀ σ' a' b', Inv (k + 1) σ' → a' ≤ a + 1 → b' ≤ b + 18 → am_T (KL S1 L) MR Q 18 (lsL (k + 1)) [] σ' a' b') : am_T (KL S1 L) MR Q 560 (lsL k) [] σ a b := by
  have e1 := nI_6 k 1 1 (by decide)
  have v1 : vp_in (nI (6 * k + 1)) L := vp_in_nI (by omega) (by omega)
  have c1 : (nI (6 * k + 1)).toNatClampNeg = 6 * k + 1 := nI_clamp (by omega)
  have e2 := nI_6 k 2 2 (by decide)
  have v2 : vp_in (nI (6 * k + 2)) L := vp_in_nI (by omega) (by omega)
  have c2 : (nI (6 * k + 2)).toNatClampNeg = 6 * k + 2 := nI_clamp (by omega)
  have e3 := nI_6 k 3 3 (by decide)
  have v3 : vp_in (nI (6 * k + 3)) L := vp_in_nI (by omega) (by omega)
  have c3 : (nI (6 * k + 3)).toNatClampNeg = 6 * k + 3 := nI_clamp (by omega)
  have e4 := nI_6 k 4 4 (by decide)
  have v4 : vp_in (nI (6 * k + 4)) L := vp_in_nI (by omega) (by omega)
  have c4 : (nI (6 * k + 4)).toNatClampNeg = 6 * k + 4 := nI_clamp (by omega)
  have e5 := nI_6 k 5 5 (by decide)
  have v5 : vp_in (nI (6 * k + 5)) L := vp_in_nI (by omega) (by omega)
  have c5 : (nI (6 * k + 5)).toNatClampNeg = 6 * k + 5 := nI_clamp (by omega)
  have ha2 : a ≤ 600000 := by omega
  have hb2 : b ≤ 7302250 := by omega
  rw [h_law L 6]
  simp only [am_run_z, am_run_s, bt, lf, am_in, am_ar, am_fit, am_ld, am_ct, Nat.reduceLT, Nat.reduceEqDiff, reduceIte, Nat.reduceAdd, Nat.reduceLeDiff, Nat.reduceSub, Bool.false_eq_true, if_true, if_false, ite_true, ite_false, List.length_cons, List.length_nil, Nat.zero_add, Nat.add_zero, and_true, true_and, true_or, or_true, and_self, Nat.le_refl, Nat.lt_irrefl, gI_sI, gL_sL, gQ_sQ, gI_sJ, gI_sL, gI_sQ, gL_sI, gL_sQ, gL_sJ, gQ_sI, gQ_sL, gQ_sJ, gN_sI, gN_sL, gN_sQ, gN_sJ, E_b2_0, E_cI_a, E_cI_b, E_cV_a, E_cV_b, E_c_0, E_dup_0, E_dup_1, E_i2l_0, E_inc_a, E_inc_b, E_je_0, E_jg_0, E_jmp_0, E_jz_0, E_kk, E_l2_0, E_lcmp_0, E_ldI_a, E_ldI_b, E_ldR_a, E_ldR_b, E_lsh_0, E_new_0, E_rZ_0, E_sld_0, E_slen_0, E_stI_0, E_stR_0, E_sw_0, Nat.reduceDiv, am_cc, am_nl, am_ok, am_pop, am_rt, am_set, am_v, am_vo, am_vs, cC_11, cC_12, gI_sO, gL_sO, gN_sO, gQ_sO, nN_10, nN_3, kL_law, kL_law_6, e1, v1, c1, e2, v2, c2, e3, v3, c3, e4, v4, c4, e5, v5, c5, ha2, hb2, true_or]
  refine MM_mo _ _ _ _ _ ?_ (api_sum _ k σ hk hI)
  intro r σ1 h ro
  simp only [am_run_z, E_kk, Nat.add_zero]
  have hct := ct_rt r
  generalize hst : am_rt r [] = st0 at hct ⊢
  have hc8 : am_ct st0 ≤ 8 := by omega
  have hc8_1 : 1 + am_ct st0 ≤ 8 := by omega
  have hc8_2 : 2 + am_ct st0 ≤ 8 := by omega
  have hc8_3 : 3 + am_ct st0 ≤ 8 := by omega
  have hc8_4 : 4 + am_ct st0 ≤ 8 := by omega
  have hc8_5 : 5 + am_ct st0 ≤ 8 := by omega
  have hc8_6 : 6 + am_ct st0 ≤ 8 := by omega
  have sc : ∀ j, gI σ1 20 j = gI σ 20 j := ro.1
  have ha3 : a + 0 ≤ 600000 := by omega
  have hb3 : b + 0 ≤ 7302250 := by omega
  rw [h_law L 7]
  simp only [am_run_z, am_run_s, bt, lf, am_in, am_ar, am_fit, am_ld, am_ct, Nat.reduceLT, Nat.reduceEqDiff, reduceIte, Nat.reduceAdd, Nat.reduceLeDiff, Nat.reduceSub, Bool.false_eq_true, if_true, if_false, ite_true, ite_false, List.length_cons, List.length_nil, Nat.zero_add, Nat.add_zero, and_true, true_and, true_or, or_true, and_self, Nat.le_refl, Nat.lt_irrefl, gI_sI, gL_sL, gQ_sQ, gI_sJ, gI_sL, gI_sQ, gL_sI, gL_sQ, gL_sJ, gQ_sI, gQ_sL, gQ_sJ, gN_sI, gN_sL, gN_sQ, gN_sJ, E_b2_0, E_cI_a, E_cI_b, E_cV_a, E_cV_b, E_c_0, E_dup_0, E_dup_1, E_i2l_0, E_inc_a, E_inc_b, E_je_0, E_jg_0, E_jmp_0, E_jz_0, E_kk, E_l2_0, E_lcmp_0, E_ldI_a, E_ldI_b, E_ldR_a, E_ldR_b, E_lsh_0, E_new_0, E_rZ_0, E_sld_0, E_slen_0, E_stI_0, E_stR_0, E_sw_0, Nat.reduceDiv, am_cc, am_nl, am_ok, am_pop, am_rt, am_set, am_v, am_vo, am_vs, cC_11, cC_12, gI_sO, gL_sO, gN_sO, gQ_sO, nN_10, nN_3, kL_law, kL_law_16, kL_law_6, e1, v1, c1, e2, v2, c2, e3, v3, c3, e4, v4, c4, e5, v5, c5, hc8, hc8_1, hc8_2, hc8_3, hc8_4, hc8_5, hc8_6, sc, ha3, hb3, ha2, hb2, true_or]
  refine MM_mo _ _ _ _ _ ?_ h
  intro r2 σ2 hh ro2
  obtain ⟨⟨v, e1', e2'⟩, hI2⟩ := hh
  subst e1'
  subst e2'
  subst hst
  simp only [am_run_z, E_kk, am_rt, am_run_s, bt, lf, am_in, am_ar, am_fit, am_ld, am_ct, Nat.reduceLT, Nat.reduceEqDiff, reduceIte, Nat.reduceAdd, Nat.reduceLeDiff, Nat.reduceSub, Bool.false_eq_true, if_true, if_false, ite_true, ite_false, List.length_cons, List.length_nil, Nat.zero_add, Nat.add_zero, and_true, true_and, true_or, or_true, and_self, Nat.le_refl, Nat.lt_irrefl, gI_sI, gL_sL, gQ_sQ, gI_sJ, gI_sL, gI_sQ, gL_sI, gL_sQ, gL_sJ, gQ_sI, gQ_sL, gQ_sJ, gN_sI, gN_sL, gN_sQ, gN_sJ, E_b2_0, E_cI_a, E_cI_b, E_cV_a, E_cV_b, E_c_0, E_dup_0, E_dup_1, E_i2l_0, E_inc_a, E_inc_b, E_je_0, E_jg_0, E_jmp_0, E_jz_0, E_kk, E_l2_0, E_lcmp_0, E_ldI_a, E_ldI_b, E_ldR_a, E_ldR_b, E_lsh_0, E_new_0, E_rZ_0, E_sld_0, E_slen_0, E_stI_0, E_stR_0, E_sw_0, Nat.reduceDiv, am_cc, am_nl, am_ok, am_pop, am_rt, am_set, am_v, am_vo, am_vs, cC_11, cC_12, gI_sO, gL_sO, gN_sO, gQ_sO, nN_10, nN_3, kL_law, kL_law_16, kL_law_6]
  exact l_next (hX σ2 _ _ hI2 (by omega) (by omega))
theorem law_stuffed {L k a b : Nat} {σ : HS} {Q : PO} (hk : k < 512) (hL : 6 * k + 6 ≤ L) (hL2 : L ≤ 3072) (hI : Inv k σ) (ha : a + 1 ≤ 600000) (hb : b + 18 ≤ 7302250) (hX : ∀ σ' a' b', Inv (k + 1) σ' → a' ≤ a + 1 → b' ≤ b + 18 → am_T (KL S1 L) MR Q 18 (lsL (k + 1)) [] σ' a' b') : am_T (KL S1 L) MR Q 583 (lsL k) [] σ a b := by
  have e1 := nI_6 k 1 1 (by decide)
  have v1 : vp_in (nI (6 * k + 1)) L := vp_in_nI (by omega) (by omega)
  have c1 : (nI (6 * k + 1)).toNatClampNeg = 6 * k + 1 := nI_clamp (by omega)
  have e2 := nI_6 k 2 2 (by decide)
  have v2 : vp_in (nI (6 * k + 2)) L := vp_in_nI (by omega) (by omega)
  have c2 : (nI (6 * k + 2)).toNatClampNeg = 6 * k + 2 := nI_clamp (by omega)
  have e3 := nI_6 k 3 3 (by decide)
  have v3 : vp_in (nI (6 * k + 3)) L := vp_in_nI (by omega) (by omega)
  have c3 : (nI (6 * k + 3)).toNatClampNeg = 6 * k + 3 := nI_clamp (by omega)
  have e4 := nI_6 k 4 4 (by decide)
  have v4 : vp_in (nI (6 * k + 4)) L := vp_in_nI (by omega) (by omega)
  have c4 : (nI (6 * k + 4)).toNatClampNeg = 6 * k + 4 := nI_clamp (by omega)
  have e5 := nI_6 k 5 5 (by decide)
  have v5 : vp_in (nI (6 * k + 5)) L := vp_in_nI (by omega) (by omega)
  have c5 : (nI (6 * k + 5)).toNatClampNeg = 6 * k + 5 := nI_clamp (by omega)
  have ha2 : a ≤ 600000 := by omega
  have hb2 : b ≤ 7302250 := by omega
  rw [h_law L 6]
  simp only [am_run_z, am_run_s, bt, lf, am_in, am_ar, am_fit, am_ld, am_ct, Nat.reduceLT, Nat.reduceEqDiff, reduceIte, Nat.reduceAdd, Nat.reduceLeDiff, Nat.reduceSub, Bool.false_eq_true, if_true, if_false, ite_true, ite_false, List.length_cons, List.length_nil, Nat.zero_add, Nat.add_zero, and_true, true_and, true_or, or_true, and_self, Nat.le_refl, Nat.lt_irrefl, gI_sI, gL_sL, gQ_sQ, gI_sJ, gI_sL, gI_sQ, gL_sI, gL_sQ, gL_sJ, gQ_sI, gQ_sL, gQ_sJ, gN_sI, gN_sL, gN_sQ, gN_sJ, E_b2_0, E_cI_a, E_cI_b, E_cV_a, E_cV_b, E_c_0, E_dup_0, E_dup_1, E_i2l_0, E_inc_a, E_inc_b, E_je_0, E_jg_0, E_jmp_0, E_jz_0, E_kk, E_l2_0, E_lcmp_0, E_ldI_a, E_ldI_b, E_ldR_a, E_ldR_b, E_lsh_0, E_new_0, E_rZ_0, E_sld_0, E_slen_0, E_stI_0, E_stR_0, E_sw_0, Nat.reduceDiv, am_cc, am_nl, am_ok, am_pop, am_rt, am_set, am_v, am_vo, am_vs, cC_11, cC_12, gI_sO, gL_sO, gN_sO, gQ_sO, nN_10, nN_3, kL_law, kL_law_6, kL_law_7, e1, v1, c1, e2, v2, c2, e3, v3, c3, e4, v4, c4, e5, v5, c5, ha2, hb2, true_or]
  refine MM_mo _ _ _ _ _ ?_ (api_stuffed _ k σ hk hI)
  intro r σ1 h ro
  simp only [am_run_z, E_kk, Nat.add_zero]
  have hct := ct_rt r
  generalize hst : am_rt r [] = st0 at hct ⊢
  have hc8 : am_ct st0 ≤ 8 := by omega
  have hc8_1 : 1 + am_ct st0 ≤ 8 := by omega
  have hc8_2 : 2 + am_ct st0 ≤ 8 := by omega
  have hc8_3 : 3 + am_ct st0 ≤ 8 := by omega
  have hc8_4 : 4 + am_ct st0 ≤ 8 := by omega
  have hc8_5 : 5 + am_ct st0 ≤ 8 := by omega
  have hc8_6 : 6 + am_ct st0 ≤ 8 := by omega
  have sc : ∀ j, gI σ1 20 j = gI σ 20 j := ro.1
  have ha3 : a + 0 ≤ 600000 := by omega
  have hb3 : b + 0 ≤ 7302250 := by omega
  rw [h_law L 7]
  simp only [am_run_z, am_run_s, bt, lf, am_in, am_ar, am_fit, am_ld, am_ct, Nat.reduceLT, Nat.reduceEqDiff, reduceIte, Nat.reduceAdd, Nat.reduceLeDiff, Nat.reduceSub, Bool.false_eq_true, if_true, if_false, ite_true, ite_false, List.length_cons, List.length_nil, Nat.zero_add, Nat.add_zero, and_true, true_and, true_or, or_true, and_self, Nat.le_refl, Nat.lt_irrefl, gI_sI, gL_sL, gQ_sQ, gI_sJ, gI_sL, gI_sQ, gL_sI, gL_sQ, gL_sJ, gQ_sI, gQ_sL, gQ_sJ, gN_sI, gN_sL, gN_sQ, gN_sJ, E_b2_0, E_cI_a, E_cI_b, E_cV_a, E_cV_b, E_c_0, E_dup_0, E_dup_1, E_i2l_0, E_inc_a, E_inc_b, E_je_0, E_jg_0, E_jmp_0, E_jz_0, E_kk, E_l2_0, E_lcmp_0, E_ldI_a, E_ldI_b, E_ldR_a, E_ldR_b, E_lsh_0, E_new_0, E_rZ_0, E_sld_0, E_slen_0, E_stI_0, E_stR_0, E_sw_0, Nat.reduceDiv, am_cc, am_nl, am_ok, am_pop, am_rt, am_set, am_v, am_vo, am_vs, cC_11, cC_12, gI_sO, gL_sO, gN_sO, gQ_sO, nN_10, nN_3, kL_law, kL_law_16, kL_law_7, e1, v1, c1, e2, v2, c2, e3, v3, c3, e4, v4, c4, e5, v5, c5, hc8, hc8_1, hc8_2, hc8_3, hc8_4, hc8_5, hc8_6, sc, ha3, hb3, ha2, hb2, true_or]
  refine MM_mo _ _ _ _ _ ?_ h
  intro r2 σ2 hh ro2
  obtain ⟨⟨v, e1', e2'⟩, hI2⟩ := hh
  subst e1'
  subst e2'
  subst hst
  simp only [am_run_z, E_kk, am_rt, am_run_s, bt, lf, am_in, am_ar, am_fit, am_ld, am_ct, Nat.reduceLT, Nat.reduceEqDiff, reduceIte, Nat.reduceAdd, Nat.reduceLeDiff, Nat.reduceSub, Bool.false_eq_true, if_true, if_false, ite_true, ite_false, List.length_cons, List.length_nil, Nat.zero_add, Nat.add_zero, and_true, true_and, true_or, or_true, and_self, Nat.le_refl, Nat.lt_irrefl, gI_sI, gL_sL, gQ_sQ, gI_sJ, gI_sL, gI_sQ, gL_sI, gL_sQ, gL_sJ, gQ_sI, gQ_sL, gQ_sJ, gN_sI, gN_sL, gN_sQ, gN_sJ, E_b2_0, E_cI_a, E_cI_b, E_cV_a, E_cV_b, E_c_0, E_dup_0, E_dup_1, E_i2l_0, E_inc_a, E_inc_b, E_je_0, E_jg_0, E_jmp_0, E_jz_0, E_kk, E_l2_0, E_lcmp_0, E_ldI_a, E_ldI_b, E_ldR_a, E_ldR_b, E_lsh_0, E_new_0, E_rZ_0, E_sld_0, E_slen_0, E_stI_0, E_stR_0, E_sw_0, Nat.reduceDiv, am_cc, am_nl, am_ok, am_pop, am_rt, am_set, am_v, am_vo, am_vs, cC_11, cC_12, gI_sO, gL_sO, gN_sO, gQ_sO, nN_10, nN_3, kL_law, kL_law_16, kL_law_7]
  exact l_next (hX σ2 _ _ hI2 (by omega) (by omega))
theorem law_ahead {L k a b : Nat} {σ : HS} {Q : PO} (hk : k < 512) (hL : 6 * k + 6 ≤ L) (hL2 : L ≤ 3072) (hI : Inv k σ) (ha : a + 1 ≤ 600000) (hb : b + 18 ≤ 7302250) (hX : ∀ σ' a' b', Inv (k + 1) σ' → a' ≤ a + 1 → b' ≤ b + 18 → am_T (KL S1 L) MR Q 18 (lsL (k + 1)) [] σ' a' b') : am_T (KL S1 L) MR Q 606 (lsL k) [] σ a b := by
  have e1 := nI_6 k 1 1 (by decide)
  have v1 : vp_in (nI (6 * k + 1)) L := vp_in_nI (by omega) (by omega)
  have c1 : (nI (6 * k + 1)).toNatClampNeg = 6 * k + 1 := nI_clamp (by omega)
  have e2 := nI_6 k 2 2 (by decide)
  have v2 : vp_in (nI (6 * k + 2)) L := vp_in_nI (by omega) (by omega)
  have c2 : (nI (6 * k + 2)).toNatClampNeg = 6 * k + 2 := nI_clamp (by omega)
  have e3 := nI_6 k 3 3 (by decide)
  have v3 : vp_in (nI (6 * k + 3)) L := vp_in_nI (by omega) (by omega)
  have c3 : (nI (6 * k + 3)).toNatClampNeg = 6 * k + 3 := nI_clamp (by omega)
  have e4 := nI_6 k 4 4 (by decide)
  have v4 : vp_in (nI (6 * k + 4)) L := vp_in_nI (by omega) (by omega)
  have c4 : (nI (6 * k + 4)).toNatClampNeg = 6 * k + 4 := nI_clamp (by omega)
  have e5 := nI_6 k 5 5 (by decide)
  have v5 : vp_in (nI (6 * k + 5)) L := vp_in_nI (by omega) (by omega)
  have c5 : (nI (6 * k + 5)).toNatClampNeg = 6 * k + 5 := nI_clamp (by omega)
  have ha2 : a ≤ 600000 := by omega
  have hb2 : b ≤ 7302250 := by omega
  rw [h_law L 11]
  simp only [am_run_z, am_run_s, bt, lf, am_in, am_ar, am_fit, am_ld, am_ct, Nat.reduceLT, Nat.reduceEqDiff, reduceIte, Nat.reduceAdd, Nat.reduceLeDiff, Nat.reduceSub, Bool.false_eq_true, if_true, if_false, ite_true, ite_false, List.length_cons, List.length_nil, Nat.zero_add, Nat.add_zero, and_true, true_and, true_or, or_true, and_self, Nat.le_refl, Nat.lt_irrefl, gI_sI, gL_sL, gQ_sQ, gI_sJ, gI_sL, gI_sQ, gL_sI, gL_sQ, gL_sJ, gQ_sI, gQ_sL, gQ_sJ, gN_sI, gN_sL, gN_sQ, gN_sJ, E_b2_0, E_cI_a, E_cI_b, E_cV_a, E_cV_b, E_c_0, E_dup_0, E_dup_1, E_i2l_0, E_inc_a, E_inc_b, E_je_0, E_jg_0, E_jmp_0, E_jz_0, E_kk, E_l2_0, E_lcmp_0, E_ldI_a, E_ldI_b, E_ldR_a, E_ldR_b, E_lsh_0, E_new_0, E_rZ_0, E_sld_0, E_slen_0, E_stI_0, E_stR_0, E_sw_0, Nat.reduceDiv, am_cc, am_nl, am_ok, am_pop, am_rt, am_set, am_v, am_vo, am_vs, cC_11, cC_12, gI_sO, gL_sO, gN_sO, gQ_sO, nN_10, nN_3, kL_law, kL_law_7, e1, v1, c1, e2, v2, c2, e3, v3, c3, e4, v4, c4, e5, v5, c5, ha2, hb2, true_or]
  refine MM_mo _ _ _ _ _ ?_ (api_ahead _ _ k σ hk hI)
  intro r σ1 h ro
  simp only [am_run_z, E_kk, Nat.add_zero]
  have hct := ct_rt r
  generalize hst : am_rt r [] = st0 at hct ⊢
  have hc8 : am_ct st0 ≤ 8 := by omega
  have hc8_1 : 1 + am_ct st0 ≤ 8 := by omega
  have hc8_2 : 2 + am_ct st0 ≤ 8 := by omega
  have hc8_3 : 3 + am_ct st0 ≤ 8 := by omega
  have hc8_4 : 4 + am_ct st0 ≤ 8 := by omega
  have hc8_5 : 5 + am_ct st0 ≤ 8 := by omega
  have hc8_6 : 6 + am_ct st0 ≤ 8 := by omega
  have sc : ∀ j, gI σ1 20 j = gI σ 20 j := ro.1
  have ha3 : a + 0 ≤ 600000 := by omega
  have hb3 : b + 0 ≤ 7302250 := by omega
  rw [h_law L 12]
  simp only [am_run_z, am_run_s, bt, lf, am_in, am_ar, am_fit, am_ld, am_ct, Nat.reduceLT, Nat.reduceEqDiff, reduceIte, Nat.reduceAdd, Nat.reduceLeDiff, Nat.reduceSub, Bool.false_eq_true, if_true, if_false, ite_true, ite_false, List.length_cons, List.length_nil, Nat.zero_add, Nat.add_zero, and_true, true_and, true_or, or_true, and_self, Nat.le_refl, Nat.lt_irrefl, gI_sI, gL_sL, gQ_sQ, gI_sJ, gI_sL, gI_sQ, gL_sI, gL_sQ, gL_sJ, gQ_sI, gQ_sL, gQ_sJ, gN_sI, gN_sL, gN_sQ, gN_sJ, E_b2_0, E_cI_a, E_cI_b, E_cV_a, E_cV_b, E_c_0, E_dup_0, E_dup_1, E_i2l_0, E_inc_a, E_inc_b, E_je_0, E_jg_0, E_jmp_0, E_jz_0, E_kk, E_l2_0, E_lcmp_0, E_ldI_a, E_ldI_b, E_ldR_a, E_ldR_b, E_lsh_0, E_new_0, E_rZ_0, E_sld_0, E_slen_0, E_stI_0, E_stR_0, E_sw_0, Nat.reduceDiv, am_cc, am_nl, am_ok, am_pop, am_rt, am_set, am_v, am_vo, am_vs, cC_11, cC_12, gI_sO, gL_sO, gN_sO, gQ_sO, nN_10, nN_3, kL_law, kL_law_16, kL_law_7, e1, v1, c1, e2, v2, c2, e3, v3, c3, e4, v4, c4, e5, v5, c5, hc8, hc8_1, hc8_2, hc8_3, hc8_4, hc8_5, hc8_6, sc, ha3, hb3, ha2, hb2, true_or]
  refine MM_mo _ _ _ _ _ ?_ h
  intro r2 σ2 hh ro2
  obtain ⟨⟨v, e1', e2'⟩, hI2⟩ := hh
  subst e1'
  subst e2'
  subst hst
  simp only [am_run_z, E_kk, am_rt, am_run_s, bt, lf, am_in, am_ar, am_fit, am_ld, am_ct, Nat.reduceLT, Nat.reduceEqDiff, reduceIte, Nat.reduceAdd, Nat.reduceLeDiff, Nat.reduceSub, Bool.false_eq_true, if_true, if_false, ite_true, ite_false, List.length_cons, List.length_nil, Nat.zero_add, Nat.add_zero, and_true, true_and, true_or, or_true, and_self, Nat.le_refl, Nat.lt_irrefl, gI_sI, gL_sL, gQ_sQ, gI_sJ, gI_sL, gI_sQ, gL_sI, gL_sQ, gL_sJ, gQ_sI, gQ_sL, gQ_sJ, gN_sI, gN_sL, gN_sQ, gN_sJ, E_b2_0, E_cI_a, E_cI_b, E_cV_a, E_cV_b, E_c_0, E_dup_0, E_dup_1, E_i2l_0, E_inc_a, E_inc_b, E_je_0, E_jg_0, E_jmp_0, E_jz_0, E_kk, E_l2_0, E_lcmp_0, E_ldI_a, E_ldI_b, E_ldR_a, E_ldR_b, E_lsh_0, E_new_0, E_rZ_0, E_sld_0, E_slen_0, E_stI_0, E_stR_0, E_sw_0, Nat.reduceDiv, am_cc, am_nl, am_ok, am_pop, am_rt, am_set, am_v, am_vo, am_vs, cC_11, cC_12, gI_sO, gL_sO, gN_sO, gQ_sO, nN_10, nN_3, kL_law, kL_law_16, kL_law_7]
  exact l_next (hX σ2 _ _ hI2 (by omega) (by omega))
theorem law_feed {L k a b : Nat} {σ : HS} {Q : PO} (hk : k < 512) (hL : 6 * k + 6 ≤ L) (hL2 : L ≤ 3072) (hI : Inv k σ) (ha : a + 1 ≤ 600000) (hb : b + 18 ≤ 7302250) (hX : ∀ σ' a' b', Inv (k + 1) σ' → a' ≤ a + 1 → b' ≤ b + 18 → am_T (KL S1 L) MR Q 18 (lsL (k + 1)) [] σ' a' b') : am_T (KL S1 L) MR Q 639 (lsL k) [] σ a b := by
  have e1 := nI_6 k 1 1 (by decide)
  have v1 : vp_in (nI (6 * k + 1)) L := vp_in_nI (by omega) (by omega)
  have c1 : (nI (6 * k + 1)).toNatClampNeg = 6 * k + 1 := nI_clamp (by omega)
  have e2 := nI_6 k 2 2 (by decide)
  have v2 : vp_in (nI (6 * k + 2)) L := vp_in_nI (by omega) (by omega)
  have c2 : (nI (6 * k + 2)).toNatClampNeg = 6 * k + 2 := nI_clamp (by omega)
  have e3 := nI_6 k 3 3 (by decide)
  have v3 : vp_in (nI (6 * k + 3)) L := vp_in_nI (by omega) (by omega)
  have c3 : (nI (6 * k + 3)).toNatClampNeg = 6 * k + 3 := nI_clamp (by omega)
  have e4 := nI_6 k 4 4 (by decide)
  have v4 : vp_in (nI (6 * k + 4)) L := vp_in_nI (by omega) (by omega)
  have c4 : (nI (6 * k + 4)).toNatClampNeg = 6 * k + 4 := nI_clamp (by omega)
  have e5 := nI_6 k 5 5 (by decide)
  have v5 : vp_in (nI (6 * k + 5)) L := vp_in_nI (by omega) (by omega)
  have c5 : (nI (6 * k + 5)).toNatClampNeg = 6 * k + 5 := nI_clamp (by omega)
  have ha2 : a ≤ 600000 := by omega
  have hb2 : b ≤ 7302250 := by omega
  rw [h_law L 11]
  simp only [am_run_z, am_run_s, bt, lf, am_in, am_ar, am_fit, am_ld, am_ct, Nat.reduceLT, Nat.reduceEqDiff, reduceIte, Nat.reduceAdd, Nat.reduceLeDiff, Nat.reduceSub, Bool.false_eq_true, if_true, if_false, ite_true, ite_false, List.length_cons, List.length_nil, Nat.zero_add, Nat.add_zero, and_true, true_and, true_or, or_true, and_self, Nat.le_refl, Nat.lt_irrefl, gI_sI, gL_sL, gQ_sQ, gI_sJ, gI_sL, gI_sQ, gL_sI, gL_sQ, gL_sJ, gQ_sI, gQ_sL, gQ_sJ, gN_sI, gN_sL, gN_sQ, gN_sJ, E_b2_0, E_cI_a, E_cI_b, E_cV_a, E_cV_b, E_c_0, E_dup_0, E_dup_1, E_i2l_0, E_inc_a, E_inc_b, E_je_0, E_jg_0, E_jmp_0, E_jz_0, E_kk, E_l2_0, E_lcmp_0, E_ldI_a, E_ldI_b, E_ldR_a, E_ldR_b, E_lsh_0, E_new_0, E_rZ_0, E_sld_0, E_slen_0, E_stI_0, E_stR_0, E_sw_0, Nat.reduceDiv, am_cc, am_nl, am_ok, am_pop, am_rt, am_set, am_v, am_vo, am_vs, cC_11, cC_12, gI_sO, gL_sO, gN_sO, gQ_sO, nN_10, nN_3, kL_law, kL_law_7, kL_law_8, e1, v1, c1, e2, v2, c2, e3, v3, c3, e4, v4, c4, e5, v5, c5, ha2, hb2, true_or]
  refine MM_mo _ _ _ _ _ ?_ (api_feed _ _ k σ hk hI)
  intro r σ1 h ro
  simp only [am_run_z, E_kk, Nat.add_zero]
  have hct := ct_rt r
  generalize hst : am_rt r [] = st0 at hct ⊢
  have hc8 : am_ct st0 ≤ 8 := by omega
  have hc8_1 : 1 + am_ct st0 ≤ 8 := by omega
  have hc8_2 : 2 + am_ct st0 ≤ 8 := by omega
  have hc8_3 : 3 + am_ct st0 ≤ 8 := by omega
  have hc8_4 : 4 + am_ct st0 ≤ 8 := by omega
  have hc8_5 : 5 + am_ct st0 ≤ 8 := by omega
  have hc8_6 : 6 + am_ct st0 ≤ 8 := by omega
  have sc : ∀ j, gI σ1 20 j = gI σ 20 j := ro.1
  have ha3 : a + 0 ≤ 600000 := by omega
  have hb3 : b + 0 ≤ 7302250 := by omega
  rw [h_law L 12]
  simp only [am_run_z, am_run_s, bt, lf, am_in, am_ar, am_fit, am_ld, am_ct, Nat.reduceLT, Nat.reduceEqDiff, reduceIte, Nat.reduceAdd, Nat.reduceLeDiff, Nat.reduceSub, Bool.false_eq_true, if_true, if_false, ite_true, ite_false, List.length_cons, List.length_nil, Nat.zero_add, Nat.add_zero, and_true, true_and, true_or, or_true, and_self, Nat.le_refl, Nat.lt_irrefl, gI_sI, gL_sL, gQ_sQ, gI_sJ, gI_sL, gI_sQ, gL_sI, gL_sQ, gL_sJ, gQ_sI, gQ_sL, gQ_sJ, gN_sI, gN_sL, gN_sQ, gN_sJ, E_b2_0, E_cI_a, E_cI_b, E_cV_a, E_cV_b, E_c_0, E_dup_0, E_dup_1, E_i2l_0, E_inc_a, E_inc_b, E_je_0, E_jg_0, E_jmp_0, E_jz_0, E_kk, E_l2_0, E_lcmp_0, E_ldI_a, E_ldI_b, E_ldR_a, E_ldR_b, E_lsh_0, E_new_0, E_rZ_0, E_sld_0, E_slen_0, E_stI_0, E_stR_0, E_sw_0, Nat.reduceDiv, am_cc, am_nl, am_ok, am_pop, am_rt, am_set, am_v, am_vo, am_vs, cC_11, cC_12, gI_sO, gL_sO, gN_sO, gQ_sO, nN_10, nN_3, kL_law, kL_law_16, kL_law_8, e1, v1, c1, e2, v2, c2, e3, v3, c3, e4, v4, c4, e5, v5, c5, hc8, hc8_1, hc8_2, hc8_3, hc8_4, hc8_5, hc8_6, sc, ha3, hb3, ha2, hb2, true_or]
  refine MM_mo _ _ _ _ _ ?_ h
  intro r2 σ2 hh ro2
  obtain ⟨⟨v, e1', e2'⟩, hI2⟩ := hh
  subst e1'
  subst e2'
  subst hst
  simp only [am_run_z, E_kk, am_rt, am_run_s, bt, lf, am_in, am_ar, am_fit, am_ld, am_ct, Nat.reduceLT, Nat.reduceEqDiff, reduceIte, Nat.reduceAdd, Nat.reduceLeDiff, Nat.reduceSub, Bool.false_eq_true, if_true, if_false, ite_true, ite_false, List.length_cons, List.length_nil, Nat.zero_add, Nat.add_zero, and_true, true_and, true_or, or_true, and_self, Nat.le_refl, Nat.lt_irrefl, gI_sI, gL_sL, gQ_sQ, gI_sJ, gI_sL, gI_sQ, gL_sI, gL_sQ, gL_sJ, gQ_sI, gQ_sL, gQ_sJ, gN_sI, gN_sL, gN_sQ, gN_sJ, E_b2_0, E_cI_a, E_cI_b, E_cV_a, E_cV_b, E_c_0, E_dup_0, E_dup_1, E_i2l_0, E_inc_a, E_inc_b, E_je_0, E_jg_0, E_jmp_0, E_jz_0, E_kk, E_l2_0, E_lcmp_0, E_ldI_a, E_ldI_b, E_ldR_a, E_ldR_b, E_lsh_0, E_new_0, E_rZ_0, E_sld_0, E_slen_0, E_stI_0, E_stR_0, E_sw_0, Nat.reduceDiv, am_cc, am_nl, am_ok, am_pop, am_rt, am_set, am_v, am_vo, am_vs, cC_11, cC_12, gI_sO, gL_sO, gN_sO, gQ_sO, nN_10, nN_3, kL_law, kL_law_16, kL_law_8]
  exact l_next (hX σ2 _ _ hI2 (by omega) (by omega))
theorem law_lay {L k a b : Nat} {σ : HS} {Q : PO} (hk : k < 512) (hL : 6 * k + 6 ≤ L) (hL2 : L ≤ 3072) (hI : Inv k σ) (ha : a + 1 ≤ 600000) (hb : b + 18 ≤ 7302250) (hX : ∀ σ' a' b', Inv (k + 1) σ' → a' ≤ a + 1 → b' ≤ b + 18 → am_T (KL S1 L) MR Q 18 (lsL (k + 1)) [] σ' a' b') : am_T (KL S1 L) MR Q 672 (lsL k) [] σ a b := by
  have e1 := nI_6 k 1 1 (by decide)
  have v1 : vp_in (nI (6 * k + 1)) L := vp_in_nI (by omega) (by omega)
  have c1 : (nI (6 * k + 1)).toNatClampNeg = 6 * k + 1 := nI_clamp (by omega)
  have e2 := nI_6 k 2 2 (by decide)
  have v2 : vp_in (nI (6 * k + 2)) L := vp_in_nI (by omega) (by omega)
  have c2 : (nI (6 * k + 2)).toNatClampNeg = 6 * k + 2 := nI_clamp (by omega)
  have e3 := nI_6 k 3 3 (by decide)
  have v3 : vp_in (nI (6 * k + 3)) L := vp_in_nI (by omega) (by omega)
  have c3 : (nI (6 * k + 3)).toNatClampNeg = 6 * k + 3 := nI_clamp (by omega)
  have e4 := nI_6 k 4 4 (by decide)
  have v4 : vp_in (nI (6 * k + 4)) L := vp_in_nI (by omega) (by omega)
  have c4 : (nI (6 * k + 4)).toNatClampNeg = 6 * k + 4 := nI_clamp (by omega)
  have e5 := nI_6 k 5 5 (by decide)
  have v5 : vp_in (nI (6 * k + 5)) L := vp_in_nI (by omega) (by omega)
  have c5 : (nI (6 * k + 5)).toNatClampNeg = 6 * k + 5 := nI_clamp (by omega)
  have ha2 : a ≤ 600000 := by omega
  have hb2 : b ≤ 7302250 := by omega
  rw [h_law L 6]
  simp only [am_run_z, am_run_s, bt, lf, am_in, am_ar, am_fit, am_ld, am_ct, Nat.reduceLT, Nat.reduceEqDiff, reduceIte, Nat.reduceAdd, Nat.reduceLeDiff, Nat.reduceSub, Bool.false_eq_true, if_true, if_false, ite_true, ite_false, List.length_cons, List.length_nil, Nat.zero_add, Nat.add_zero, and_true, true_and, true_or, or_true, and_self, Nat.le_refl, Nat.lt_irrefl, gI_sI, gL_sL, gQ_sQ, gI_sJ, gI_sL, gI_sQ, gL_sI, gL_sQ, gL_sJ, gQ_sI, gQ_sL, gQ_sJ, gN_sI, gN_sL, gN_sQ, gN_sJ, E_b2_0, E_cI_a, E_cI_b, E_cV_a, E_cV_b, E_c_0, E_dup_0, E_dup_1, E_i2l_0, E_inc_a, E_inc_b, E_je_0, E_jg_0, E_jmp_0, E_jz_0, E_kk, E_l2_0, E_lcmp_0, E_ldI_a, E_ldI_b, E_ldR_a, E_ldR_b, E_lsh_0, E_new_0, E_rZ_0, E_sld_0, E_slen_0, E_stI_0, E_stR_0, E_sw_0, Nat.reduceDiv, am_cc, am_nl, am_ok, am_pop, am_rt, am_set, am_v, am_vo, am_vs, cC_11, cC_12, gI_sO, gL_sO, gN_sO, gQ_sO, nN_10, nN_3, kL_law, kL_law_8, e1, v1, c1, e2, v2, c2, e3, v3, c3, e4, v4, c4, e5, v5, c5, ha2, hb2, true_or]
  refine MM_mo _ _ _ _ _ ?_ (api_lay _ k σ hk hI)
  intro r σ1 h ro
  simp only [am_run_z, E_kk, Nat.add_zero]
  have hct := ct_rt r
  generalize hst : am_rt r [] = st0 at hct ⊢
  have hc8 : am_ct st0 ≤ 8 := by omega
  have hc8_1 : 1 + am_ct st0 ≤ 8 := by omega
  have hc8_2 : 2 + am_ct st0 ≤ 8 := by omega
  have hc8_3 : 3 + am_ct st0 ≤ 8 := by omega
  have hc8_4 : 4 + am_ct st0 ≤ 8 := by omega
  have hc8_5 : 5 + am_ct st0 ≤ 8 := by omega
  have hc8_6 : 6 + am_ct st0 ≤ 8 := by omega
  have sc : ∀ j, gI σ1 20 j = gI σ 20 j := ro.1
  have ha3 : a + 0 ≤ 600000 := by omega
  have hb3 : b + 0 ≤ 7302250 := by omega
  rw [h_law L 7]
  simp only [am_run_z, am_run_s, bt, lf, am_in, am_ar, am_fit, am_ld, am_ct, Nat.reduceLT, Nat.reduceEqDiff, reduceIte, Nat.reduceAdd, Nat.reduceLeDiff, Nat.reduceSub, Bool.false_eq_true, if_true, if_false, ite_true, ite_false, List.length_cons, List.length_nil, Nat.zero_add, Nat.add_zero, and_true, true_and, true_or, or_true, and_self, Nat.le_refl, Nat.lt_irrefl, gI_sI, gL_sL, gQ_sQ, gI_sJ, gI_sL, gI_sQ, gL_sI, gL_sQ, gL_sJ, gQ_sI, gQ_sL, gQ_sJ, gN_sI, gN_sL, gN_sQ, gN_sJ, E_b2_0, E_cI_a, E_cI_b, E_cV_a, E_cV_b, E_c_0, E_dup_0, E_dup_1, E_i2l_0, E_inc_a, E_inc_b, E_je_0, E_jg_0, E_jmp_0, E_jz_0, E_kk, E_l2_0, E_lcmp_0, E_ldI_a, E_ldI_b, E_ldR_a, E_ldR_b, E_lsh_0, E_new_0, E_rZ_0, E_sld_0, E_slen_0, E_stI_0, E_stR_0, E_sw_0, Nat.reduceDiv, am_cc, am_nl, am_ok, am_pop, am_rt, am_set, am_v, am_vo, am_vs, cC_11, cC_12, gI_sO, gL_sO, gN_sO, gQ_sO, nN_10, nN_3, kL_law, kL_law_16, kL_law_8, e1, v1, c1, e2, v2, c2, e3, v3, c3, e4, v4, c4, e5, v5, c5, hc8, hc8_1, hc8_2, hc8_3, hc8_4, hc8_5, hc8_6, sc, ha3, hb3, ha2, hb2, true_or]
  refine MM_mo _ _ _ _ _ ?_ h
  intro r2 σ2 hh ro2
  obtain ⟨⟨v, e1', e2'⟩, hI2⟩ := hh
  subst e1'
  subst e2'
  subst hst
  simp only [am_run_z, E_kk, am_rt, am_run_s, bt, lf, am_in, am_ar, am_fit, am_ld, am_ct, Nat.reduceLT, Nat.reduceEqDiff, reduceIte, Nat.reduceAdd, Nat.reduceLeDiff, Nat.reduceSub, Bool.false_eq_true, if_true, if_false, ite_true, ite_false, List.length_cons, List.length_nil, Nat.zero_add, Nat.add_zero, and_true, true_and, true_or, or_true, and_self, Nat.le_refl, Nat.lt_irrefl, gI_sI, gL_sL, gQ_sQ, gI_sJ, gI_sL, gI_sQ, gL_sI, gL_sQ, gL_sJ, gQ_sI, gQ_sL, gQ_sJ, gN_sI, gN_sL, gN_sQ, gN_sJ, E_b2_0, E_cI_a, E_cI_b, E_cV_a, E_cV_b, E_c_0, E_dup_0, E_dup_1, E_i2l_0, E_inc_a, E_inc_b, E_je_0, E_jg_0, E_jmp_0, E_jz_0, E_kk, E_l2_0, E_lcmp_0, E_ldI_a, E_ldI_b, E_ldR_a, E_ldR_b, E_lsh_0, E_new_0, E_rZ_0, E_sld_0, E_slen_0, E_stI_0, E_stR_0, E_sw_0, Nat.reduceDiv, am_cc, am_nl, am_ok, am_pop, am_rt, am_set, am_v, am_vo, am_vs, cC_11, cC_12, gI_sO, gL_sO, gN_sO, gQ_sO, nN_10, nN_3, kL_law, kL_law_16, kL_law_8]
  exact l_next (hX σ2 _ _ hI2 (by omega) (by omega))
theorem law_bend {L k a b : Nat} {σ : HS} {Q : PO} (hk : k < 512) (hL : 6 * k + 6 ≤ L) (hL2 : L ≤ 3072) (hI : Inv k σ) (ha : a + 1 ≤ 600000) (hb : b + 18 ≤ 7302250) (hX : ∀ σ' a' b', Inv (k + 1) σ' → a' ≤ a + 1 → b' ≤ b + 18 → am_T (KL S1 L) MR Q 18 (lsL (k + 1)) [] σ' a' b') : am_T (KL S1 L) MR Q 695 (lsL k) [] σ a b := by
  have e1 := nI_6 k 1 1 (by decide)
  have v1 : vp_in (nI (6 * k + 1)) L := vp_in_nI (by omega) (by omega)
  have c1 : (nI (6 * k + 1)).toNatClampNeg = 6 * k + 1 := nI_clamp (by omega)
  have e2 := nI_6 k 2 2 (by decide)
  have v2 : vp_in (nI (6 * k + 2)) L := vp_in_nI (by omega) (by omega)
  have c2 : (nI (6 * k + 2)).toNatClampNeg = 6 * k + 2 := nI_clamp (by omega)
  have e3 := nI_6 k 3 3 (by decide)
  have v3 : vp_in (nI (6 * k + 3)) L := vp_in_nI (by omega) (by omega)
  have c3 : (nI (6 * k + 3)).toNatClampNeg = 6 * k + 3 := nI_clamp (by omega)
  have e4 := nI_6 k 4 4 (by decide)
  have v4 : vp_in (nI (6 * k + 4)) L := vp_in_nI (by omega) (by omega)
  have c4 : (nI (6 * k + 4)).toNatClampNeg = 6 * k + 4 := nI_clamp (by omega)
  have e5 := nI_6 k 5 5 (by decide)
  have v5 : vp_in (nI (6 * k + 5)) L := vp_in_nI (by omega) (by omega)
  have c5 : (nI (6 * k + 5)).toNatClampNeg = 6 * k + 5 := nI_clamp (by omega)
  have ha2 : a ≤ 600000 := by omega
  have hb2 : b ≤ 7302250 := by omega
  rw [h_law L 6]
  simp only [am_run_z, am_run_s, bt, lf, am_in, am_ar, am_fit, am_ld, am_ct, Nat.reduceLT, Nat.reduceEqDiff, reduceIte, Nat.reduceAdd, Nat.reduceLeDiff, Nat.reduceSub, Bool.false_eq_true, if_true, if_false, ite_true, ite_false, List.length_cons, List.length_nil, Nat.zero_add, Nat.add_zero, and_true, true_and, true_or, or_true, and_self, Nat.le_refl, Nat.lt_irrefl, gI_sI, gL_sL, gQ_sQ, gI_sJ, gI_sL, gI_sQ, gL_sI, gL_sQ, gL_sJ, gQ_sI, gQ_sL, gQ_sJ, gN_sI, gN_sL, gN_sQ, gN_sJ, E_b2_0, E_cI_a, E_cI_b, E_cV_a, E_cV_b, E_c_0, E_dup_0, E_dup_1, E_i2l_0, E_inc_a, E_inc_b, E_je_0, E_jg_0, E_jmp_0, E_jz_0, E_kk, E_l2_0, E_lcmp_0, E_ldI_a, E_ldI_b, E_ldR_a, E_ldR_b, E_lsh_0, E_new_0, E_rZ_0, E_sld_0, E_slen_0, E_stI_0, E_stR_0, E_sw_0, Nat.reduceDiv, am_cc, am_nl, am_ok, am_pop, am_rt, am_set, am_v, am_vo, am_vs, cC_11, cC_12, gI_sO, gL_sO, gN_sO, gQ_sO, nN_10, nN_3, kL_law, kL_law_8, e1, v1, c1, e2, v2, c2, e3, v3, c3, e4, v4, c4, e5, v5, c5, ha2, hb2, true_or]
  refine MM_mo _ _ _ _ _ ?_ (api_bend _ k σ hk hI)
  intro r σ1 h ro
  simp only [am_run_z, E_kk, Nat.add_zero]
  have hct := ct_rt r
  generalize hst : am_rt r [] = st0 at hct ⊢
  have hc8 : am_ct st0 ≤ 8 := by omega
  have hc8_1 : 1 + am_ct st0 ≤ 8 := by omega
  have hc8_2 : 2 + am_ct st0 ≤ 8 := by omega
  have hc8_3 : 3 + am_ct st0 ≤ 8 := by omega
  have hc8_4 : 4 + am_ct st0 ≤ 8 := by omega
  have hc8_5 : 5 + am_ct st0 ≤ 8 := by omega
  have hc8_6 : 6 + am_ct st0 ≤ 8 := by omega
  have sc : ∀ j, gI σ1 20 j = gI σ 20 j := ro.1
  have ha3 : a + 0 ≤ 600000 := by omega
  have hb3 : b + 0 ≤ 7302250 := by omega
  rw [h_law L 7]
  simp only [am_run_z, am_run_s, bt, lf, am_in, am_ar, am_fit, am_ld, am_ct, Nat.reduceLT, Nat.reduceEqDiff, reduceIte, Nat.reduceAdd, Nat.reduceLeDiff, Nat.reduceSub, Bool.false_eq_true, if_true, if_false, ite_true, ite_false, List.length_cons, List.length_nil, Nat.zero_add, Nat.add_zero, and_true, true_and, true_or, or_true, and_self, Nat.le_refl, Nat.lt_irrefl, gI_sI, gL_sL, gQ_sQ, gI_sJ, gI_sL, gI_sQ, gL_sI, gL_sQ, gL_sJ, gQ_sI, gQ_sL, gQ_sJ, gN_sI, gN_sL, gN_sQ, gN_sJ, E_b2_0, E_cI_a, E_cI_b, E_cV_a, E_cV_b, E_c_0, E_dup_0, E_dup_1, E_i2l_0, E_inc_a, E_inc_b, E_je_0, E_jg_0, E_jmp_0, E_jz_0, E_kk, E_l2_0, E_lcmp_0, E_ldI_a, E_ldI_b, E_ldR_a, E_ldR_b, E_lsh_0, E_new_0, E_rZ_0, E_sld_0, E_slen_0, E_stI_0, E_stR_0, E_sw_0, Nat.reduceDiv, am_cc, am_nl, am_ok, am_pop, am_rt, am_set, am_v, am_vo, am_vs, cC_11, cC_12, gI_sO, gL_sO, gN_sO, gQ_sO, nN_10, nN_3, kL_law, kL_law_16, kL_law_8, kL_law_9, e1, v1, c1, e2, v2, c2, e3, v3, c3, e4, v4, c4, e5, v5, c5, hc8, hc8_1, hc8_2, hc8_3, hc8_4, hc8_5, hc8_6, sc, ha3, hb3, ha2, hb2, true_or]
  refine MM_mo _ _ _ _ _ ?_ h
  intro r2 σ2 hh ro2
  obtain ⟨⟨v, e1', e2'⟩, hI2⟩ := hh
  subst e1'
  subst e2'
  subst hst
  simp only [am_run_z, E_kk, am_rt, am_run_s, bt, lf, am_in, am_ar, am_fit, am_ld, am_ct, Nat.reduceLT, Nat.reduceEqDiff, reduceIte, Nat.reduceAdd, Nat.reduceLeDiff, Nat.reduceSub, Bool.false_eq_true, if_true, if_false, ite_true, ite_false, List.length_cons, List.length_nil, Nat.zero_add, Nat.add_zero, and_true, true_and, true_or, or_true, and_self, Nat.le_refl, Nat.lt_irrefl, gI_sI, gL_sL, gQ_sQ, gI_sJ, gI_sL, gI_sQ, gL_sI, gL_sQ, gL_sJ, gQ_sI, gQ_sL, gQ_sJ, gN_sI, gN_sL, gN_sQ, gN_sJ, E_b2_0, E_cI_a, E_cI_b, E_cV_a, E_cV_b, E_c_0, E_dup_0, E_dup_1, E_i2l_0, E_inc_a, E_inc_b, E_je_0, E_jg_0, E_jmp_0, E_jz_0, E_kk, E_l2_0, E_lcmp_0, E_ldI_a, E_ldI_b, E_ldR_a, E_ldR_b, E_lsh_0, E_new_0, E_rZ_0, E_sld_0, E_slen_0, E_stI_0, E_stR_0, E_sw_0, Nat.reduceDiv, am_cc, am_nl, am_ok, am_pop, am_rt, am_set, am_v, am_vo, am_vs, cC_11, cC_12, gI_sO, gL_sO, gN_sO, gQ_sO, nN_10, nN_3, kL_law, kL_law_16, kL_law_8, kL_law_9]
  exact l_next (hX σ2 _ _ hI2 (by omega) (by omega))
theorem law_wipe {L k a b : Nat} {σ : HS} {Q : PO} (hk : k < 512) (hL : 6 * k + 6 ≤ L) (hL2 : L ≤ 3072) (hI : Inv k σ) (ha : a + 1 ≤ 600000) (hb : b + 18 ≤ 7302250) (hX : ∀ σ' a' b', Inv (k + 1) σ' → a' ≤ a + 1 → b' ≤ b + 18 → am_T (KL S1 L) MR Q 18 (lsL (k + 1)) [] σ' a' b') : am_T (KL S1 L) MR Q 718 (lsL k) [] σ a b := by
  have ha2 : a ≤ 600000 := by omega
  have hb2 : b ≤ 7302250 := by omega
  rw [h_law L 1]
  simp only [am_run_z, am_run_s, bt, lf, am_in, am_ar, am_fit, am_ld, am_ct, Nat.reduceLT, Nat.reduceEqDiff, reduceIte, Nat.reduceAdd, Nat.reduceLeDiff, Nat.reduceSub, Bool.false_eq_true, if_true, if_false, ite_true, ite_false, List.length_cons, List.length_nil, Nat.zero_add, Nat.add_zero, and_true, true_and, true_or, or_true, and_self, Nat.le_refl, Nat.lt_irrefl, gI_sI, gL_sL, gQ_sQ, gI_sJ, gI_sL, gI_sQ, gL_sI, gL_sQ, gL_sJ, gQ_sI, gQ_sL, gQ_sJ, gN_sI, gN_sL, gN_sQ, gN_sJ, E_b2_0, E_cI_a, E_cI_b, E_cV_a, E_cV_b, E_c_0, E_dup_0, E_dup_1, E_i2l_0, E_inc_a, E_inc_b, E_je_0, E_jg_0, E_jmp_0, E_jz_0, E_kk, E_l2_0, E_lcmp_0, E_ldI_a, E_ldI_b, E_ldR_a, E_ldR_b, E_lsh_0, E_new_0, E_rZ_0, E_sld_0, E_slen_0, E_stI_0, E_stR_0, E_sw_0, Nat.reduceDiv, am_cc, am_nl, am_ok, am_pop, am_rt, am_set, am_v, am_vo, am_vs, cC_11, cC_12, gI_sO, gL_sO, gN_sO, gQ_sO, nN_10, nN_3, kL_law, kL_law_9, ha2, hb2, true_or]
  refine MM_mo _ _ _ _ _ ?_ (api_wipe k σ hk hI)
  intro r σ1 h ro
  simp only [am_run_z, E_kk, Nat.add_zero]
  have hct := ct_rt r
  generalize hst : am_rt r [] = st0 at hct ⊢
  have hc8 : am_ct st0 ≤ 8 := by omega
  have hc8_1 : 1 + am_ct st0 ≤ 8 := by omega
  have hc8_2 : 2 + am_ct st0 ≤ 8 := by omega
  have hc8_3 : 3 + am_ct st0 ≤ 8 := by omega
  have hc8_4 : 4 + am_ct st0 ≤ 8 := by omega
  have hc8_5 : 5 + am_ct st0 ≤ 8 := by omega
  have hc8_6 : 6 + am_ct st0 ≤ 8 := by omega
  have ha3 : a + 0 ≤ 600000 := by omega
  have hb3 : b + 0 ≤ 7302250 := by omega
  rw [h_law L 2]
  simp only [am_run_z, am_run_s, bt, lf, am_in, am_ar, am_fit, am_ld, am_ct, Nat.reduceLT, Nat.reduceEqDiff, reduceIte, Nat.reduceAdd, Nat.reduceLeDiff, Nat.reduceSub, Bool.false_eq_true, if_true, if_false, ite_true, ite_false, List.length_cons, List.length_nil, Nat.zero_add, Nat.add_zero, and_true, true_and, true_or, or_true, and_self, Nat.le_refl, Nat.lt_irrefl, gI_sI, gL_sL, gQ_sQ, gI_sJ, gI_sL, gI_sQ, gL_sI, gL_sQ, gL_sJ, gQ_sI, gQ_sL, gQ_sJ, gN_sI, gN_sL, gN_sQ, gN_sJ, E_b2_0, E_cI_a, E_cI_b, E_cV_a, E_cV_b, E_c_0, E_dup_0, E_dup_1, E_i2l_0, E_inc_a, E_inc_b, E_je_0, E_jg_0, E_jmp_0, E_jz_0, E_kk, E_l2_0, E_lcmp_0, E_ldI_a, E_ldI_b, E_ldR_a, E_ldR_b, E_lsh_0, E_new_0, E_rZ_0, E_sld_0, E_slen_0, E_stI_0, E_stR_0, E_sw_0, Nat.reduceDiv, am_cc, am_nl, am_ok, am_pop, am_rt, am_set, am_v, am_vo, am_vs, cC_11, cC_12, gI_sO, gL_sO, gN_sO, gQ_sO, nN_10, nN_3, kL_law, kL_law_16, kL_law_9, hc8, hc8_1, hc8_2, hc8_3, hc8_4, hc8_5, hc8_6, E_kk, ha3, hb3, ha2, hb2, true_or]
  refine MM_mo _ _ _ _ _ ?_ h
  intro r2 σ2 hh ro2
  obtain ⟨⟨v, e1', e2'⟩, hI2⟩ := hh
  subst e1'
  subst e2'
  subst hst
  simp only [am_run_z, E_kk, am_rt, am_run_s, bt, lf, am_in, am_ar, am_fit, am_ld, am_ct, Nat.reduceLT, Nat.reduceEqDiff, reduceIte, Nat.reduceAdd, Nat.reduceLeDiff, Nat.reduceSub, Bool.false_eq_true, if_true, if_false, ite_true, ite_false, List.length_cons, List.length_nil, Nat.zero_add, Nat.add_zero, and_true, true_and, true_or, or_true, and_self, Nat.le_refl, Nat.lt_irrefl, gI_sI, gL_sL, gQ_sQ, gI_sJ, gI_sL, gI_sQ, gL_sI, gL_sQ, gL_sJ, gQ_sI, gQ_sL, gQ_sJ, gN_sI, gN_sL, gN_sQ, gN_sJ, E_b2_0, E_cI_a, E_cI_b, E_cV_a, E_cV_b, E_c_0, E_dup_0, E_dup_1, E_i2l_0, E_inc_a, E_inc_b, E_je_0, E_jg_0, E_jmp_0, E_jz_0, E_kk, E_l2_0, E_lcmp_0, E_ldI_a, E_ldI_b, E_ldR_a, E_ldR_b, E_lsh_0, E_new_0, E_rZ_0, E_sld_0, E_slen_0, E_stI_0, E_stR_0, E_sw_0, Nat.reduceDiv, am_cc, am_nl, am_ok, am_pop, am_rt, am_set, am_v, am_vo, am_vs, cC_11, cC_12, gI_sO, gL_sO, gN_sO, gQ_sO, nN_10, nN_3, kL_law, kL_law_16, kL_law_9]
  exact l_next (hX σ2 _ _ hI2 (by omega) (by omega))
theorem law_read {L k a b : Nat} {σ : HS} {Q : PO} (hk : k < 512) (hL : 6 * k + 6 ≤ L) (hL2 : L ≤ 3072) (hI : Inv k σ) (ha : a + 1 ≤ 600000) (hb : b + 18 ≤ 7302250) (hX : ∀ σ' a' b', Inv (k + 1) σ' → a' ≤ a + 1 → b' ≤ b + 18 → am_T (KL S1 L) MR Q 18 (lsL (k + 1)) [] σ' a' b') : am_T (KL S1 L) MR Q 731 (lsL k) [] σ a b := by
  have e1 := nI_6 k 1 1 (by decide)
  have v1 : vp_in (nI (6 * k + 1)) L := vp_in_nI (by omega) (by omega)
  have c1 : (nI (6 * k + 1)).toNatClampNeg = 6 * k + 1 := nI_clamp (by omega)
  have e2 := nI_6 k 2 2 (by decide)
  have v2 : vp_in (nI (6 * k + 2)) L := vp_in_nI (by omega) (by omega)
  have c2 : (nI (6 * k + 2)).toNatClampNeg = 6 * k + 2 := nI_clamp (by omega)
  have e3 := nI_6 k 3 3 (by decide)
  have v3 : vp_in (nI (6 * k + 3)) L := vp_in_nI (by omega) (by omega)
  have c3 : (nI (6 * k + 3)).toNatClampNeg = 6 * k + 3 := nI_clamp (by omega)
  have e4 := nI_6 k 4 4 (by decide)
  have v4 : vp_in (nI (6 * k + 4)) L := vp_in_nI (by omega) (by omega)
  have c4 : (nI (6 * k + 4)).toNatClampNeg = 6 * k + 4 := nI_clamp (by omega)
  have e5 := nI_6 k 5 5 (by decide)
  have v5 : vp_in (nI (6 * k + 5)) L := vp_in_nI (by omega) (by omega)
  have c5 : (nI (6 * k + 5)).toNatClampNeg = 6 * k + 5 := nI_clamp (by omega)
  have ha2 : a ≤ 600000 := by omega
  have hb2 : b ≤ 7302250 := by omega
  rw [h_law L 6]
  simp only [am_run_z, am_run_s, bt, lf, am_in, am_ar, am_fit, am_ld, am_ct, Nat.reduceLT, Nat.reduceEqDiff, reduceIte, Nat.reduceAdd, Nat.reduceLeDiff, Nat.reduceSub, Bool.false_eq_true, if_true, if_false, ite_true, ite_false, List.length_cons, List.length_nil, Nat.zero_add, Nat.add_zero, and_true, true_and, true_or, or_true, and_self, Nat.le_refl, Nat.lt_irrefl, gI_sI, gL_sL, gQ_sQ, gI_sJ, gI_sL, gI_sQ, gL_sI, gL_sQ, gL_sJ, gQ_sI, gQ_sL, gQ_sJ, gN_sI, gN_sL, gN_sQ, gN_sJ, E_b2_0, E_cI_a, E_cI_b, E_cV_a, E_cV_b, E_c_0, E_dup_0, E_dup_1, E_i2l_0, E_inc_a, E_inc_b, E_je_0, E_jg_0, E_jmp_0, E_jz_0, E_kk, E_l2_0, E_lcmp_0, E_ldI_a, E_ldI_b, E_ldR_a, E_ldR_b, E_lsh_0, E_new_0, E_rZ_0, E_sld_0, E_slen_0, E_stI_0, E_stR_0, E_sw_0, Nat.reduceDiv, am_cc, am_nl, am_ok, am_pop, am_rt, am_set, am_v, am_vo, am_vs, cC_11, cC_12, gI_sO, gL_sO, gN_sO, gQ_sO, nN_10, nN_3, kL_law, kL_law_9, e1, v1, c1, e2, v2, c2, e3, v3, c3, e4, v4, c4, e5, v5, c5, ha2, hb2, true_or]
  refine MM_mo _ _ _ _ _ ?_ (api_read _ k σ hk hI)
  intro r σ1 h ro
  simp only [am_run_z, E_kk, Nat.add_zero]
  have hct := ct_rt r
  generalize hst : am_rt r [] = st0 at hct ⊢
  have hc8 : am_ct st0 ≤ 8 := by omega
  have hc8_1 : 1 + am_ct st0 ≤ 8 := by omega
  have hc8_2 : 2 + am_ct st0 ≤ 8 := by omega
  have hc8_3 : 3 + am_ct st0 ≤ 8 := by omega
  have hc8_4 : 4 + am_ct st0 ≤ 8 := by omega
  have hc8_5 : 5 + am_ct st0 ≤ 8 := by omega
  have hc8_6 : 6 + am_ct st0 ≤ 8 := by omega
  have sc : ∀ j, gI σ1 20 j = gI σ 20 j := ro.1
  have ha3 : a + 0 ≤ 600000 := by omega
  have hb3 : b + 0 ≤ 7302250 := by omega
  rw [h_law L 7]
  simp only [am_run_z, am_run_s, bt, lf, am_in, am_ar, am_fit, am_ld, am_ct, Nat.reduceLT, Nat.reduceEqDiff, reduceIte, Nat.reduceAdd, Nat.reduceLeDiff, Nat.reduceSub, Bool.false_eq_true, if_true, if_false, ite_true, ite_false, List.length_cons, List.length_nil, Nat.zero_add, Nat.add_zero, and_true, true_and, true_or, or_true, and_self, Nat.le_refl, Nat.lt_irrefl, gI_sI, gL_sL, gQ_sQ, gI_sJ, gI_sL, gI_sQ, gL_sI, gL_sQ, gL_sJ, gQ_sI, gQ_sL, gQ_sJ, gN_sI, gN_sL, gN_sQ, gN_sJ, E_b2_0, E_cI_a, E_cI_b, E_cV_a, E_cV_b, E_c_0, E_dup_0, E_dup_1, E_i2l_0, E_inc_a, E_inc_b, E_je_0, E_jg_0, E_jmp_0, E_jz_0, E_kk, E_l2_0, E_lcmp_0, E_ldI_a, E_ldI_b, E_ldR_a, E_ldR_b, E_lsh_0, E_new_0, E_rZ_0, E_sld_0, E_slen_0, E_stI_0, E_stR_0, E_sw_0, Nat.reduceDiv, am_cc, am_nl, am_ok, am_pop, am_rt, am_set, am_v, am_vo, am_vs, cC_11, cC_12, gI_sO, gL_sO, gN_sO, gQ_sO, nN_10, nN_3, kL_law, kL_law_16, kL_law_9, e1, v1, c1, e2, v2, c2, e3, v3, c3, e4, v4, c4, e5, v5, c5, hc8, hc8_1, hc8_2, hc8_3, hc8_4, hc8_5, hc8_6, sc, ha3, hb3, ha2, hb2, true_or]
  refine MM_mo _ _ _ _ _ ?_ h
  intro r2 σ2 hh ro2
  obtain ⟨⟨v, e1', e2'⟩, hI2⟩ := hh
  subst e1'
  subst e2'
  subst hst
  simp only [am_run_z, E_kk, am_rt, am_run_s, bt, lf, am_in, am_ar, am_fit, am_ld, am_ct, Nat.reduceLT, Nat.reduceEqDiff, reduceIte, Nat.reduceAdd, Nat.reduceLeDiff, Nat.reduceSub, Bool.false_eq_true, if_true, if_false, ite_true, ite_false, List.length_cons, List.length_nil, Nat.zero_add, Nat.add_zero, and_true, true_and, true_or, or_true, and_self, Nat.le_refl, Nat.lt_irrefl, gI_sI, gL_sL, gQ_sQ, gI_sJ, gI_sL, gI_sQ, gL_sI, gL_sQ, gL_sJ, gQ_sI, gQ_sL, gQ_sJ, gN_sI, gN_sL, gN_sQ, gN_sJ, E_b2_0, E_cI_a, E_cI_b, E_cV_a, E_cV_b, E_c_0, E_dup_0, E_dup_1, E_i2l_0, E_inc_a, E_inc_b, E_je_0, E_jg_0, E_jmp_0, E_jz_0, E_kk, E_l2_0, E_lcmp_0, E_ldI_a, E_ldI_b, E_ldR_a, E_ldR_b, E_lsh_0, E_new_0, E_rZ_0, E_sld_0, E_slen_0, E_stI_0, E_stR_0, E_sw_0, Nat.reduceDiv, am_cc, am_nl, am_ok, am_pop, am_rt, am_set, am_v, am_vo, am_vs, cC_11, cC_12, gI_sO, gL_sO, gN_sO, gQ_sO, nN_10, nN_3, kL_law, kL_law_16, kL_law_9]
  exact l_next (hX σ2 _ _ hI2 (by omega) (by omega))
theorem law_told {L k a b : Nat} {σ : HS} {Q : PO} (hk : k < 512) (hL : 6 * k + 6 ≤ L) (hL2 : L ≤ 3072) (hI : Inv k σ) (ha : a + 1 ≤ 600000) (hb : b + 18 ≤ 7302250) (hX : ∀ σ' a' b', Inv (k + 1) σ' → a' ≤ a + 1 → b' ≤ b + 18 → am_T (KL S1 L) MR Q 18 (lsL (k + 1)) [] σ' a' b') : am_T (KL S1 L) MR Q 754 (lsL k) [] σ a b := by
  have e1 := nI_6 k 1 1 (by decide)
  have v1 : vp_in (nI (6 * k + 1)) L := vp_in_nI (by omega) (by omega)
  have c1 : (nI (6 * k + 1)).toNatClampNeg = 6 * k + 1 := nI_clamp (by omega)
  have e2 := nI_6 k 2 2 (by decide)
  have v2 : vp_in (nI (6 * k + 2)) L := vp_in_nI (by omega) (by omega)
  have c2 : (nI (6 * k + 2)).toNatClampNeg = 6 * k + 2 := nI_clamp (by omega)
  have e3 := nI_6 k 3 3 (by decide)
  have v3 : vp_in (nI (6 * k + 3)) L := vp_in_nI (by omega) (by omega)
  have c3 : (nI (6 * k + 3)).toNatClampNeg = 6 * k + 3 := nI_clamp (by omega)
  have e4 := nI_6 k 4 4 (by decide)
  have v4 : vp_in (nI (6 * k + 4)) L := vp_in_nI (by omega) (by omega)
  have c4 : (nI (6 * k + 4)).toNatClampNeg = 6 * k + 4 := nI_clamp (by omega)
  have e5 := nI_6 k 5 5 (by decide)
  have v5 : vp_in (nI (6 * k + 5)) L := vp_in_nI (by omega) (by omega)
  have c5 : (nI (6 * k + 5)).toNatClampNeg = 6 * k + 5 := nI_clamp (by omega)
  have ha2 : a ≤ 600000 := by omega
  have hb2 : b ≤ 7302250 := by omega
  rw [h_law L 6]
  simp only [am_run_z, am_run_s, bt, lf, am_in, am_ar, am_fit, am_ld, am_ct, Nat.reduceLT, Nat.reduceEqDiff, reduceIte, Nat.reduceAdd, Nat.reduceLeDiff, Nat.reduceSub, Bool.false_eq_true, if_true, if_false, ite_true, ite_false, List.length_cons, List.length_nil, Nat.zero_add, Nat.add_zero, and_true, true_and, true_or, or_true, and_self, Nat.le_refl, Nat.lt_irrefl, gI_sI, gL_sL, gQ_sQ, gI_sJ, gI_sL, gI_sQ, gL_sI, gL_sQ, gL_sJ, gQ_sI, gQ_sL, gQ_sJ, gN_sI, gN_sL, gN_sQ, gN_sJ, E_b2_0, E_cI_a, E_cI_b, E_cV_a, E_cV_b, E_c_0, E_dup_0, E_dup_1, E_i2l_0, E_inc_a, E_inc_b, E_je_0, E_jg_0, E_jmp_0, E_jz_0, E_kk, E_l2_0, E_lcmp_0, E_ldI_a, E_ldI_b, E_ldR_a, E_ldR_b, E_lsh_0, E_new_0, E_rZ_0, E_sld_0, E_slen_0, E_stI_0, E_stR_0, E_sw_0, Nat.reduceDiv, am_cc, am_nl, am_ok, am_pop, am_rt, am_set, am_v, am_vo, am_vs, cC_11, cC_12, gI_sO, gL_sO, gN_sO, gQ_sO, nN_10, nN_3, kL_law, kL_law_9, e1, v1, c1, e2, v2, c2, e3, v3, c3, e4, v4, c4, e5, v5, c5, ha2, hb2, true_or]
  refine MM_mo _ _ _ _ _ ?_ (api_told _ k σ hk hI)
  intro r σ1 h ro
  simp only [am_run_z, E_kk, Nat.add_zero]
  have hct := ct_rt r
  generalize hst : am_rt r [] = st0 at hct ⊢
  have hc8 : am_ct st0 ≤ 8 := by omega
  have hc8_1 : 1 + am_ct st0 ≤ 8 := by omega
  have hc8_2 : 2 + am_ct st0 ≤ 8 := by omega
  have hc8_3 : 3 + am_ct st0 ≤ 8 := by omega
  have hc8_4 : 4 + am_ct st0 ≤ 8 := by omega
  have hc8_5 : 5 + am_ct st0 ≤ 8 := by omega
  have hc8_6 : 6 + am_ct st0 ≤ 8 := by omega
  have sc : ∀ j, gI σ1 20 j = gI σ 20 j := ro.1
  have ha3 : a + 0 ≤ 600000 := by omega
  have hb3 : b + 0 ≤ 7302250 := by omega
  rw [h_law L 7]
  simp only [am_run_z, am_run_s, bt, lf, am_in, am_ar, am_fit, am_ld, am_ct, Nat.reduceLT, Nat.reduceEqDiff, reduceIte, Nat.reduceAdd, Nat.reduceLeDiff, Nat.reduceSub, Bool.false_eq_true, if_true, if_false, ite_true, ite_false, List.length_cons, List.length_nil, Nat.zero_add, Nat.add_zero, and_true, true_and, true_or, or_true, and_self, Nat.le_refl, Nat.lt_irrefl, gI_sI, gL_sL, gQ_sQ, gI_sJ, gI_sL, gI_sQ, gL_sI, gL_sQ, gL_sJ, gQ_sI, gQ_sL, gQ_sJ, gN_sI, gN_sL, gN_sQ, gN_sJ, E_b2_0, E_cI_a, E_cI_b, E_cV_a, E_cV_b, E_c_0, E_dup_0, E_dup_1, E_i2l_0, E_inc_a, E_inc_b, E_je_0, E_jg_0, E_jmp_0, E_jz_0, E_kk, E_l2_0, E_lcmp_0, E_ldI_a, E_ldI_b, E_ldR_a, E_ldR_b, E_lsh_0, E_new_0, E_rZ_0, E_sld_0, E_slen_0, E_stI_0, E_stR_0, E_sw_0, Nat.reduceDiv, am_cc, am_nl, am_ok, am_pop, am_rt, am_set, am_v, am_vo, am_vs, cC_11, cC_12, gI_sO, gL_sO, gN_sO, gQ_sO, nN_10, nN_3, kL_law, kL_law_16, kL_law_9, e1, v1, c1, e2, v2, c2, e3, v3, c3, e4, v4, c4, e5, v5, c5, hc8, hc8_1, hc8_2, hc8_3, hc8_4, hc8_5, hc8_6, sc, ha3, hb3, ha2, hb2, true_or]
  refine MM_mo _ _ _ _ _ ?_ h
  intro r2 σ2 hh ro2
  obtain ⟨⟨v, e1', e2'⟩, hI2⟩ := hh
  subst e1'
  subst e2'
  subst hst
  simp only [am_run_z, E_kk, am_rt, am_run_s, bt, lf, am_in, am_ar, am_fit, am_ld, am_ct, Nat.reduceLT, Nat.reduceEqDiff, reduceIte, Nat.reduceAdd, Nat.reduceLeDiff, Nat.reduceSub, Bool.false_eq_true, if_true, if_false, ite_true, ite_false, List.length_cons, List.length_nil, Nat.zero_add, Nat.add_zero, and_true, true_and, true_or, or_true, and_self, Nat.le_refl, Nat.lt_irrefl, gI_sI, gL_sL, gQ_sQ, gI_sJ, gI_sL, gI_sQ, gL_sI, gL_sQ, gL_sJ, gQ_sI, gQ_sL, gQ_sJ, gN_sI, gN_sL, gN_sQ, gN_sJ, E_b2_0, E_cI_a, E_cI_b, E_cV_a, E_cV_b, E_c_0, E_dup_0, E_dup_1, E_i2l_0, E_inc_a, E_inc_b, E_je_0, E_jg_0, E_jmp_0, E_jz_0, E_kk, E_l2_0, E_lcmp_0, E_ldI_a, E_ldI_b, E_ldR_a, E_ldR_b, E_lsh_0, E_new_0, E_rZ_0, E_sld_0, E_slen_0, E_stI_0, E_stR_0, E_sw_0, Nat.reduceDiv, am_cc, am_nl, am_ok, am_pop, am_rt, am_set, am_v, am_vo, am_vs, cC_11, cC_12, gI_sO, gL_sO, gN_sO, gQ_sO, nN_10, nN_3, kL_law, kL_law_16, kL_law_9]
  exact l_next (hX σ2 _ _ hI2 (by omega) (by omega))
theorem law_bytes {L k a b : Nat} {σ : HS} {Q : PO} (hk : k < 512) (hL : 6 * k + 6 ≤ L) (hL2 : L ≤ 3072) (hI : Inv k σ) (ha : a + 1 ≤ 600000) (hb : b + 18 ≤ 7302250) (hX : ∀ σ' a' b', Inv (k + 1) σ' → a' ≤ a + 1 → b' ≤ b + 18 → am_T (KL S1 L) MR Q 18 (lsL (k + 1)) [] σ' a' b') : am_T (KL S1 L) MR Q 777 (lsL k) [] σ a b := by
  have ha2 : a ≤ 600000 := by omega
  have hb2 : b ≤ 7302250 := by omega
  rw [h_law L 1]
  simp only [am_run_z, am_run_s, bt, lf, am_in, am_ar, am_fit, am_ld, am_ct, Nat.reduceLT, Nat.reduceEqDiff, reduceIte, Nat.reduceAdd, Nat.reduceLeDiff, Nat.reduceSub, Bool.false_eq_true, if_true, if_false, ite_true, ite_false, List.length_cons, List.length_nil, Nat.zero_add, Nat.add_zero, and_true, true_and, true_or, or_true, and_self, Nat.le_refl, Nat.lt_irrefl, gI_sI, gL_sL, gQ_sQ, gI_sJ, gI_sL, gI_sQ, gL_sI, gL_sQ, gL_sJ, gQ_sI, gQ_sL, gQ_sJ, gN_sI, gN_sL, gN_sQ, gN_sJ, E_b2_0, E_cI_a, E_cI_b, E_cV_a, E_cV_b, E_c_0, E_dup_0, E_dup_1, E_i2l_0, E_inc_a, E_inc_b, E_je_0, E_jg_0, E_jmp_0, E_jz_0, E_kk, E_l2_0, E_lcmp_0, E_ldI_a, E_ldI_b, E_ldR_a, E_ldR_b, E_lsh_0, E_new_0, E_rZ_0, E_sld_0, E_slen_0, E_stI_0, E_stR_0, E_sw_0, Nat.reduceDiv, am_cc, am_nl, am_ok, am_pop, am_rt, am_set, am_v, am_vo, am_vs, cC_11, cC_12, gI_sO, gL_sO, gN_sO, gQ_sO, nN_10, nN_3, kL_law, kL_law_10, kL_law_9, ha2, hb2, true_or]
  refine MM_mo _ _ _ _ _ ?_ (api_bytes k σ hk hI)
  intro r σ1 h ro
  simp only [am_run_z, E_kk, Nat.add_zero]
  have hct := ct_rt r
  generalize hst : am_rt r [] = st0 at hct ⊢
  have hc8 : am_ct st0 ≤ 8 := by omega
  have hc8_1 : 1 + am_ct st0 ≤ 8 := by omega
  have hc8_2 : 2 + am_ct st0 ≤ 8 := by omega
  have hc8_3 : 3 + am_ct st0 ≤ 8 := by omega
  have hc8_4 : 4 + am_ct st0 ≤ 8 := by omega
  have hc8_5 : 5 + am_ct st0 ≤ 8 := by omega
  have hc8_6 : 6 + am_ct st0 ≤ 8 := by omega
  have ha3 : a + 0 ≤ 600000 := by omega
  have hb3 : b + 0 ≤ 7302250 := by omega
  rw [h_law L 3]
  simp only [am_run_z, am_run_s, bt, lf, am_in, am_ar, am_fit, am_ld, am_ct, Nat.reduceLT, Nat.reduceEqDiff, reduceIte, Nat.reduceAdd, Nat.reduceLeDiff, Nat.reduceSub, Bool.false_eq_true, if_true, if_false, ite_true, ite_false, List.length_cons, List.length_nil, Nat.zero_add, Nat.add_zero, and_true, true_and, true_or, or_true, and_self, Nat.le_refl, Nat.lt_irrefl, gI_sI, gL_sL, gQ_sQ, gI_sJ, gI_sL, gI_sQ, gL_sI, gL_sQ, gL_sJ, gQ_sI, gQ_sL, gQ_sJ, gN_sI, gN_sL, gN_sQ, gN_sJ, E_b2_0, E_cI_a, E_cI_b, E_cV_a, E_cV_b, E_c_0, E_dup_0, E_dup_1, E_i2l_0, E_inc_a, E_inc_b, E_je_0, E_jg_0, E_jmp_0, E_jz_0, E_kk, E_l2_0, E_lcmp_0, E_ldI_a, E_ldI_b, E_ldR_a, E_ldR_b, E_lsh_0, E_new_0, E_rZ_0, E_sld_0, E_slen_0, E_stI_0, E_stR_0, E_sw_0, Nat.reduceDiv, am_cc, am_nl, am_ok, am_pop, am_rt, am_set, am_v, am_vo, am_vs, cC_11, cC_12, gI_sO, gL_sO, gN_sO, gQ_sO, nN_10, nN_3, kL_law, kL_law_10, kL_law_16, hc8, hc8_1, hc8_2, hc8_3, hc8_4, hc8_5, hc8_6, E_kk, ha3, hb3, ha2, hb2, true_or]
  refine MM_mo _ _ _ _ _ ?_ h
  intro r2 σ2 hh ro2
  obtain ⟨⟨v, e1', e2'⟩, hI2⟩ := hh
  subst e1'
  subst e2'
  subst hst
  have lz : lg_cmp v v = 0 := by rw [lc_zero]
  simp only [am_run_z, E_kk, am_rt, am_run_s, bt, lf, am_in, am_ar, am_fit, am_ld, am_ct, Nat.reduceLT, Nat.reduceEqDiff, reduceIte, Nat.reduceAdd, Nat.reduceLeDiff, Nat.reduceSub, Bool.false_eq_true, if_true, if_false, ite_true, ite_false, List.length_cons, List.length_nil, Nat.zero_add, Nat.add_zero, and_true, true_and, true_or, or_true, and_self, Nat.le_refl, Nat.lt_irrefl, gI_sI, gL_sL, gQ_sQ, gI_sJ, gI_sL, gI_sQ, gL_sI, gL_sQ, gL_sJ, gQ_sI, gQ_sL, gQ_sJ, gN_sI, gN_sL, gN_sQ, gN_sJ, E_b2_0, E_cI_a, E_cI_b, E_cV_a, E_cV_b, E_c_0, E_dup_0, E_dup_1, E_i2l_0, E_inc_a, E_inc_b, E_je_0, E_jg_0, E_jmp_0, E_jz_0, E_kk, E_l2_0, E_lcmp_0, E_ldI_a, E_ldI_b, E_ldR_a, E_ldR_b, E_lsh_0, E_new_0, E_rZ_0, E_sld_0, E_slen_0, E_stI_0, E_stR_0, E_sw_0, Nat.reduceDiv, am_cc, am_nl, am_ok, am_pop, am_rt, am_set, am_v, am_vo, am_vs, cC_11, cC_12, gI_sO, gL_sO, gN_sO, gQ_sO, nN_10, nN_3, kL_law, kL_law_10, kL_law_16, lz]
  exact l_next (hX σ2 _ _ hI2 (by omega) (by omega))
theorem law_come {L k a b : Nat} {σ : HS} {Q : PO} (hk : k < 512) (hL : 6 * k + 6 ≤ L) (hL2 : L ≤ 3072) (hI : Inv k σ) (ha : a + 1 ≤ 600000) (hb : b + 18 ≤ 7302250) (hX : ∀ σ' a' b', Inv (k + 1) σ' → a' ≤ a + 1 → b' ≤ b + 18 → am_T (KL S1 L) MR Q 18 (lsL (k + 1)) [] σ' a' b') : am_T (KL S1 L) MR Q 791 (lsL k) [] σ a b := by
  have e1 := nI_6 k 1 1 (by decide)
  have v1 : vp_in (nI (6 * k + 1)) L := vp_in_nI (by omega) (by omega)
  have c1 : (nI (6 * k + 1)).toNatClampNeg = 6 * k + 1 := nI_clamp (by omega)
  have e2 := nI_6 k 2 2 (by decide)
  have v2 : vp_in (nI (6 * k + 2)) L := vp_in_nI (by omega) (by omega)
  have c2 : (nI (6 * k + 2)).toNatClampNeg = 6 * k + 2 := nI_clamp (by omega)
  have e3 := nI_6 k 3 3 (by decide)
  have v3 : vp_in (nI (6 * k + 3)) L := vp_in_nI (by omega) (by omega)
  have c3 : (nI (6 * k + 3)).toNatClampNeg = 6 * k + 3 := nI_clamp (by omega)
  have e4 := nI_6 k 4 4 (by decide)
  have v4 : vp_in (nI (6 * k + 4)) L := vp_in_nI (by omega) (by omega)
  have c4 : (nI (6 * k + 4)).toNatClampNeg = 6 * k + 4 := nI_clamp (by omega)
  have e5 := nI_6 k 5 5 (by decide)
  have v5 : vp_in (nI (6 * k + 5)) L := vp_in_nI (by omega) (by omega)
  have c5 : (nI (6 * k + 5)).toNatClampNeg = 6 * k + 5 := nI_clamp (by omega)
  have ha2 : a ≤ 600000 := by omega
  have hb2 : b ≤ 7302250 := by omega
  rw [h_law L 6]
  simp only [am_run_z, am_run_s, bt, lf, am_in, am_ar, am_fit, am_ld, am_ct, Nat.reduceLT, Nat.reduceEqDiff, reduceIte, Nat.reduceAdd, Nat.reduceLeDiff, Nat.reduceSub, Bool.false_eq_true, if_true, if_false, ite_true, ite_false, List.length_cons, List.length_nil, Nat.zero_add, Nat.add_zero, and_true, true_and, true_or, or_true, and_self, Nat.le_refl, Nat.lt_irrefl, gI_sI, gL_sL, gQ_sQ, gI_sJ, gI_sL, gI_sQ, gL_sI, gL_sQ, gL_sJ, gQ_sI, gQ_sL, gQ_sJ, gN_sI, gN_sL, gN_sQ, gN_sJ, E_b2_0, E_cI_a, E_cI_b, E_cV_a, E_cV_b, E_c_0, E_dup_0, E_dup_1, E_i2l_0, E_inc_a, E_inc_b, E_je_0, E_jg_0, E_jmp_0, E_jz_0, E_kk, E_l2_0, E_lcmp_0, E_ldI_a, E_ldI_b, E_ldR_a, E_ldR_b, E_lsh_0, E_new_0, E_rZ_0, E_sld_0, E_slen_0, E_stI_0, E_stR_0, E_sw_0, Nat.reduceDiv, am_cc, am_nl, am_ok, am_pop, am_rt, am_set, am_v, am_vo, am_vs, cC_11, cC_12, gI_sO, gL_sO, gN_sO, gQ_sO, nN_10, nN_3, kL_law, kL_law_10, e1, v1, c1, e2, v2, c2, e3, v3, c3, e4, v4, c4, e5, v5, c5, ha2, hb2, true_or]
  refine MM_mo _ _ _ _ _ ?_ (api_come _ k σ hk hI)
  intro r σ1 h ro
  simp only [am_run_z, E_kk, Nat.add_zero]
  have hct := ct_rt r
  generalize hst : am_rt r [] = st0 at hct ⊢
  have hc8 : am_ct st0 ≤ 8 := by omega
  have hc8_1 : 1 + am_ct st0 ≤ 8 := by omega
  have hc8_2 : 2 + am_ct st0 ≤ 8 := by omega
  have hc8_3 : 3 + am_ct st0 ≤ 8 := by omega
  have hc8_4 : 4 + am_ct st0 ≤ 8 := by omega
  have hc8_5 : 5 + am_ct st0 ≤ 8 := by omega
  have hc8_6 : 6 + am_ct st0 ≤ 8 := by omega
  have sc : ∀ j, gI σ1 20 j = gI σ 20 j := ro.1
  have ha3 : a + 0 ≤ 600000 := by omega
  have hb3 : b + 0 ≤ 7302250 := by omega
  rw [h_law L 7]
  simp only [am_run_z, am_run_s, bt, lf, am_in, am_ar, am_fit, am_ld, am_ct, Nat.reduceLT, Nat.reduceEqDiff, reduceIte, Nat.reduceAdd, Nat.reduceLeDiff, Nat.reduceSub, Bool.false_eq_true, if_true, if_false, ite_true, ite_false, List.length_cons, List.length_nil, Nat.zero_add, Nat.add_zero, and_true, true_and, true_or, or_true, and_self, Nat.le_refl, Nat.lt_irrefl, gI_sI, gL_sL, gQ_sQ, gI_sJ, gI_sL, gI_sQ, gL_sI, gL_sQ, gL_sJ, gQ_sI, gQ_sL, gQ_sJ, gN_sI, gN_sL, gN_sQ, gN_sJ, E_b2_0, E_cI_a, E_cI_b, E_cV_a, E_cV_b, E_c_0, E_dup_0, E_dup_1, E_i2l_0, E_inc_a, E_inc_b, E_je_0, E_jg_0, E_jmp_0, E_jz_0, E_kk, E_l2_0, E_lcmp_0, E_ldI_a, E_ldI_b, E_ldR_a, E_ldR_b, E_lsh_0, E_new_0, E_rZ_0, E_sld_0, E_slen_0, E_stI_0, E_stR_0, E_sw_0, Nat.reduceDiv, am_cc, am_nl, am_ok, am_pop, am_rt, am_set, am_v, am_vo, am_vs, cC_11, cC_12, gI_sO, gL_sO, gN_sO, gQ_sO, nN_10, nN_3, kL_law, kL_law_10, kL_law_16, e1, v1, c1, e2, v2, c2, e3, v3, c3, e4, v4, c4, e5, v5, c5, hc8, hc8_1, hc8_2, hc8_3, hc8_4, hc8_5, hc8_6, sc, ha3, hb3, ha2, hb2, true_or]
  refine MM_mo _ _ _ _ _ ?_ h
  intro r2 σ2 hh ro2
  obtain ⟨⟨v, e1', e2'⟩, hI2⟩ := hh
  subst e1'
  subst e2'
  subst hst
  simp only [am_run_z, E_kk, am_rt, am_run_s, bt, lf, am_in, am_ar, am_fit, am_ld, am_ct, Nat.reduceLT, Nat.reduceEqDiff, reduceIte, Nat.reduceAdd, Nat.reduceLeDiff, Nat.reduceSub, Bool.false_eq_true, if_true, if_false, ite_true, ite_false, List.length_cons, List.length_nil, Nat.zero_add, Nat.add_zero, and_true, true_and, true_or, or_true, and_self, Nat.le_refl, Nat.lt_irrefl, gI_sI, gL_sL, gQ_sQ, gI_sJ, gI_sL, gI_sQ, gL_sI, gL_sQ, gL_sJ, gQ_sI, gQ_sL, gQ_sJ, gN_sI, gN_sL, gN_sQ, gN_sJ, E_b2_0, E_cI_a, E_cI_b, E_cV_a, E_cV_b, E_c_0, E_dup_0, E_dup_1, E_i2l_0, E_inc_a, E_inc_b, E_je_0, E_jg_0, E_jmp_0, E_jz_0, E_kk, E_l2_0, E_lcmp_0, E_ldI_a, E_ldI_b, E_ldR_a, E_ldR_b, E_lsh_0, E_new_0, E_rZ_0, E_sld_0, E_slen_0, E_stI_0, E_stR_0, E_sw_0, Nat.reduceDiv, am_cc, am_nl, am_ok, am_pop, am_rt, am_set, am_v, am_vo, am_vs, cC_11, cC_12, gI_sO, gL_sO, gN_sO, gQ_sO, nN_10, nN_3, kL_law, kL_law_10, kL_law_16]
  exact l_next (hX σ2 _ _ hI2 (by omega) (by omega))
theorem law_disturb {L k a b : Nat} {σ : HS} {Q : PO} (hk : k < 512) (hL : 6 * k + 6 ≤ L) (hL2 : L ≤ 3072) (hI : Inv k σ) (ha : a + 1 ≤ 600000) (hb : b + 18 ≤ 7302250) (hX : ∀ σ' a' b', Inv (k + 1) σ' → a' ≤ a + 1 → b' ≤ b + 18 → am_T (KL S1 L) MR Q 18 (lsL (k + 1)) [] σ' a' b') : am_T (KL S1 L) MR Q 814 (lsL k) [] σ a b := by
  have e1 := nI_6 k 1 1 (by decide)
  have v1 : vp_in (nI (6 * k + 1)) L := vp_in_nI (by omega) (by omega)
  have c1 : (nI (6 * k + 1)).toNatClampNeg = 6 * k + 1 := nI_clamp (by omega)
  have e2 := nI_6 k 2 2 (by decide)
  have v2 : vp_in (nI (6 * k + 2)) L := vp_in_nI (by omega) (by omega)
  have c2 : (nI (6 * k + 2)).toNatClampNeg = 6 * k + 2 := nI_clamp (by omega)
  have e3 := nI_6 k 3 3 (by decide)
  have v3 : vp_in (nI (6 * k + 3)) L := vp_in_nI (by omega) (by omega)
  have c3 : (nI (6 * k + 3)).toNatClampNeg = 6 * k + 3 := nI_clamp (by omega)
  have e4 := nI_6 k 4 4 (by decide)
  have v4 : vp_in (nI (6 * k + 4)) L := vp_in_nI (by omega) (by omega)
  have c4 : (nI (6 * k + 4)).toNatClampNeg = 6 * k + 4 := nI_clamp (by omega)
  have e5 := nI_6 k 5 5 (by decide)
  have v5 : vp_in (nI (6 * k + 5)) L := vp_in_nI (by omega) (by omega)
  have c5 : (nI (6 * k + 5)).toNatClampNeg = 6 * k + 5 := nI_clamp (by omega)
  have ha2 : a ≤ 600000 := by omega
  have hb2 : b ≤ 7302250 := by omega
  rw [h_law L 6]
  simp only [am_run_z, am_run_s, bt, lf, am_in, am_ar, am_fit, am_ld, am_ct, Nat.reduceLT, Nat.reduceEqDiff, reduceIte, Nat.reduceAdd, Nat.reduceLeDiff, Nat.reduceSub, Bool.false_eq_true, if_true, if_false, ite_true, ite_false, List.length_cons, List.length_nil, Nat.zero_add, Nat.add_zero, and_true, true_and, true_or, or_true, and_self, Nat.le_refl, Nat.lt_irrefl, gI_sI, gL_sL, gQ_sQ, gI_sJ, gI_sL, gI_sQ, gL_sI, gL_sQ, gL_sJ, gQ_sI, gQ_sL, gQ_sJ, gN_sI, gN_sL, gN_sQ, gN_sJ, E_b2_0, E_cI_a, E_cI_b, E_cV_a, E_cV_b, E_c_0, E_dup_0, E_dup_1, E_i2l_0, E_inc_a, E_inc_b, E_je_0, E_jg_0, E_jmp_0, E_jz_0, E_kk, E_l2_0, E_lcmp_0, E_ldI_a, E_ldI_b, E_ldR_a, E_ldR_b, E_lsh_0, E_new_0, E_rZ_0, E_sld_0, E_slen_0, E_stI_0, E_stR_0, E_sw_0, Nat.reduceDiv, am_cc, am_nl, am_ok, am_pop, am_rt, am_set, am_v, am_vo, am_vs, cC_11, cC_12, gI_sO, gL_sO, gN_sO, gQ_sO, nN_10, nN_3, kL_law, kL_law_10, e1, v1, c1, e2, v2, c2, e3, v3, c3, e4, v4, c4, e5, v5, c5, ha2, hb2, true_or]
  refine MM_mo _ _ _ _ _ ?_ (api_disturb _ k σ hk hI)
  intro r σ1 h ro
  simp only [am_run_z, E_kk, Nat.add_zero]
  have hct := ct_rt r
  generalize hst : am_rt r [] = st0 at hct ⊢
  have hc8 : am_ct st0 ≤ 8 := by omega
  have hc8_1 : 1 + am_ct st0 ≤ 8 := by omega
  have hc8_2 : 2 + am_ct st0 ≤ 8 := by omega
  have hc8_3 : 3 + am_ct st0 ≤ 8 := by omega
  have hc8_4 : 4 + am_ct st0 ≤ 8 := by omega
  have hc8_5 : 5 + am_ct st0 ≤ 8 := by omega
  have hc8_6 : 6 + am_ct st0 ≤ 8 := by omega
  have sc : ∀ j, gI σ1 20 j = gI σ 20 j := ro.1
  have ha3 : a + 0 ≤ 600000 := by omega
  have hb3 : b + 0 ≤ 7302250 := by omega
  rw [h_law L 7]
  simp only [am_run_z, am_run_s, bt, lf, am_in, am_ar, am_fit, am_ld, am_ct, Nat.reduceLT, Nat.reduceEqDiff, reduceIte, Nat.reduceAdd, Nat.reduceLeDiff, Nat.reduceSub, Bool.false_eq_true, if_true, if_false, ite_true, ite_false, List.length_cons, List.length_nil, Nat.zero_add, Nat.add_zero, and_true, true_and, true_or, or_true, and_self, Nat.le_refl, Nat.lt_irrefl, gI_sI, gL_sL, gQ_sQ, gI_sJ, gI_sL, gI_sQ, gL_sI, gL_sQ, gL_sJ, gQ_sI, gQ_sL, gQ_sJ, gN_sI, gN_sL, gN_sQ, gN_sJ, E_b2_0, E_cI_a, E_cI_b, E_cV_a, E_cV_b, E_c_0, E_dup_0, E_dup_1, E_i2l_0, E_inc_a, E_inc_b, E_je_0, E_jg_0, E_jmp_0, E_jz_0, E_kk, E_l2_0, E_lcmp_0, E_ldI_a, E_ldI_b, E_ldR_a, E_ldR_b, E_lsh_0, E_new_0, E_rZ_0, E_sld_0, E_slen_0, E_stI_0, E_stR_0, E_sw_0, Nat.reduceDiv, am_cc, am_nl, am_ok, am_pop, am_rt, am_set, am_v, am_vo, am_vs, cC_11, cC_12, gI_sO, gL_sO, gN_sO, gQ_sO, nN_10, nN_3, kL_law, kL_law_10, kL_law_16, e1, v1, c1, e2, v2, c2, e3, v3, c3, e4, v4, c4, e5, v5, c5, hc8, hc8_1, hc8_2, hc8_3, hc8_4, hc8_5, hc8_6, sc, ha3, hb3, ha2, hb2, true_or]
  refine MM_mo _ _ _ _ _ ?_ h
  intro r2 σ2 hh ro2
  obtain ⟨⟨v, e1', e2'⟩, hI2⟩ := hh
  subst e1'
  subst e2'
  subst hst
  simp only [am_run_z, E_kk, am_rt, am_run_s, bt, lf, am_in, am_ar, am_fit, am_ld, am_ct, Nat.reduceLT, Nat.reduceEqDiff, reduceIte, Nat.reduceAdd, Nat.reduceLeDiff, Nat.reduceSub, Bool.false_eq_true, if_true, if_false, ite_true, ite_false, List.length_cons, List.length_nil, Nat.zero_add, Nat.add_zero, and_true, true_and, true_or, or_true, and_self, Nat.le_refl, Nat.lt_irrefl, gI_sI, gL_sL, gQ_sQ, gI_sJ, gI_sL, gI_sQ, gL_sI, gL_sQ, gL_sJ, gQ_sI, gQ_sL, gQ_sJ, gN_sI, gN_sL, gN_sQ, gN_sJ, E_b2_0, E_cI_a, E_cI_b, E_cV_a, E_cV_b, E_c_0, E_dup_0, E_dup_1, E_i2l_0, E_inc_a, E_inc_b, E_je_0, E_jg_0, E_jmp_0, E_jz_0, E_kk, E_l2_0, E_lcmp_0, E_ldI_a, E_ldI_b, E_ldR_a, E_ldR_b, E_lsh_0, E_new_0, E_rZ_0, E_sld_0, E_slen_0, E_stI_0, E_stR_0, E_sw_0, Nat.reduceDiv, am_cc, am_nl, am_ok, am_pop, am_rt, am_set, am_v, am_vo, am_vs, cC_11, cC_12, gI_sO, gL_sO, gN_sO, gQ_sO, nN_10, nN_3, kL_law, kL_law_10, kL_law_16]
  exact l_next (hX σ2 _ _ hI2 (by omega) (by omega))
theorem law_run {L k a b : Nat} {σ : HS} {Q : PO} (hk : k < 512) (hL : 6 * k + 6 ≤ L) (hL2 : L ≤ 3072) (hI : Inv k σ) (ha : a + 1 ≤ 600000) (hb : b + 18 ≤ 7302250) (hX : ∀ σ' a' b', Inv (k + 1) σ' → a' ≤ a + 1 → b' ≤ b + 18 → am_T (KL S1 L) MR Q 18 (lsL (k + 1)) [] σ' a' b') : am_T (KL S1 L) MR Q 837 (lsL k) [] σ a b := by
  have e1 := nI_6 k 1 1 (by decide)
  have v1 : vp_in (nI (6 * k + 1)) L := vp_in_nI (by omega) (by omega)
  have c1 : (nI (6 * k + 1)).toNatClampNeg = 6 * k + 1 := nI_clamp (by omega)
  have e2 := nI_6 k 2 2 (by decide)
  have v2 : vp_in (nI (6 * k + 2)) L := vp_in_nI (by omega) (by omega)
  have c2 : (nI (6 * k + 2)).toNatClampNeg = 6 * k + 2 := nI_clamp (by omega)
  have e3 := nI_6 k 3 3 (by decide)
  have v3 : vp_in (nI (6 * k + 3)) L := vp_in_nI (by omega) (by omega)
  have c3 : (nI (6 * k + 3)).toNatClampNeg = 6 * k + 3 := nI_clamp (by omega)
  have e4 := nI_6 k 4 4 (by decide)
  have v4 : vp_in (nI (6 * k + 4)) L := vp_in_nI (by omega) (by omega)
  have c4 : (nI (6 * k + 4)).toNatClampNeg = 6 * k + 4 := nI_clamp (by omega)
  have e5 := nI_6 k 5 5 (by decide)
  have v5 : vp_in (nI (6 * k + 5)) L := vp_in_nI (by omega) (by omega)
  have c5 : (nI (6 * k + 5)).toNatClampNeg = 6 * k + 5 := nI_clamp (by omega)
  have ha2 : a ≤ 600000 := by omega
  have hb2 : b ≤ 7302250 := by omega
  rw [h_law L 6]
  simp only [am_run_z, am_run_s, bt, lf, am_in, am_ar, am_fit, am_ld, am_ct, Nat.reduceLT, Nat.reduceEqDiff, reduceIte, Nat.reduceAdd, Nat.reduceLeDiff, Nat.reduceSub, Bool.false_eq_true, if_true, if_false, ite_true, ite_false, List.length_cons, List.length_nil, Nat.zero_add, Nat.add_zero, and_true, true_and, true_or, or_true, and_self, Nat.le_refl, Nat.lt_irrefl, gI_sI, gL_sL, gQ_sQ, gI_sJ, gI_sL, gI_sQ, gL_sI, gL_sQ, gL_sJ, gQ_sI, gQ_sL, gQ_sJ, gN_sI, gN_sL, gN_sQ, gN_sJ, E_b2_0, E_cI_a, E_cI_b, E_cV_a, E_cV_b, E_c_0, E_dup_0, E_dup_1, E_i2l_0, E_inc_a, E_inc_b, E_je_0, E_jg_0, E_jmp_0, E_jz_0, E_kk, E_l2_0, E_lcmp_0, E_ldI_a, E_ldI_b, E_ldR_a, E_ldR_b, E_lsh_0, E_new_0, E_rZ_0, E_sld_0, E_slen_0, E_stI_0, E_stR_0, E_sw_0, Nat.reduceDiv, am_cc, am_nl, am_ok, am_pop, am_rt, am_set, am_v, am_vo, am_vs, cC_11, cC_12, gI_sO, gL_sO, gN_sO, gQ_sO, nN_10, nN_3, kL_law, kL_law_10, kL_law_11, e1, v1, c1, e2, v2, c2, e3, v3, c3, e4, v4, c4, e5, v5, c5, ha2, hb2, true_or]
  refine MM_mo _ _ _ _ _ ?_ (api_run _ k σ hk hI)
  intro r σ1 h ro
  simp only [am_run_z, E_kk, Nat.add_zero]
  have hct := ct_rt r
  generalize hst : am_rt r [] = st0 at hct ⊢
  have hc8 : am_ct st0 ≤ 8 := by omega
  have hc8_1 : 1 + am_ct st0 ≤ 8 := by omega
  have hc8_2 : 2 + am_ct st0 ≤ 8 := by omega
  have hc8_3 : 3 + am_ct st0 ≤ 8 := by omega
  have hc8_4 : 4 + am_ct st0 ≤ 8 := by omega
  have hc8_5 : 5 + am_ct st0 ≤ 8 := by omega
  have hc8_6 : 6 + am_ct st0 ≤ 8 := by omega
  have sc : ∀ j, gI σ1 20 j = gI σ 20 j := ro.1
  have ha3 : a + 0 ≤ 600000 := by omega
  have hb3 : b + 0 ≤ 7302250 := by omega
  rw [h_law L 7]
  simp only [am_run_z, am_run_s, bt, lf, am_in, am_ar, am_fit, am_ld, am_ct, Nat.reduceLT, Nat.reduceEqDiff, reduceIte, Nat.reduceAdd, Nat.reduceLeDiff, Nat.reduceSub, Bool.false_eq_true, if_true, if_false, ite_true, ite_false, List.length_cons, List.length_nil, Nat.zero_add, Nat.add_zero, and_true, true_and, true_or, or_true, and_self, Nat.le_refl, Nat.lt_irrefl, gI_sI, gL_sL, gQ_sQ, gI_sJ, gI_sL, gI_sQ, gL_sI, gL_sQ, gL_sJ, gQ_sI, gQ_sL, gQ_sJ, gN_sI, gN_sL, gN_sQ, gN_sJ, E_b2_0, E_cI_a, E_cI_b, E_cV_a, E_cV_b, E_c_0, E_dup_0, E_dup_1, E_i2l_0, E_inc_a, E_inc_b, E_je_0, E_jg_0, E_jmp_0, E_jz_0, E_kk, E_l2_0, E_lcmp_0, E_ldI_a, E_ldI_b, E_ldR_a, E_ldR_b, E_lsh_0, E_new_0, E_rZ_0, E_sld_0, E_slen_0, E_stI_0, E_stR_0, E_sw_0, Nat.reduceDiv, am_cc, am_nl, am_ok, am_pop, am_rt, am_set, am_v, am_vo, am_vs, cC_11, cC_12, gI_sO, gL_sO, gN_sO, gQ_sO, nN_10, nN_3, kL_law, kL_law_11, kL_law_16, e1, v1, c1, e2, v2, c2, e3, v3, c3, e4, v4, c4, e5, v5, c5, hc8, hc8_1, hc8_2, hc8_3, hc8_4, hc8_5, hc8_6, sc, ha3, hb3, ha2, hb2, true_or]
  refine MM_mo _ _ _ _ _ ?_ h
  intro r2 σ2 hh ro2
  obtain ⟨⟨v, e1', e2'⟩, hI2⟩ := hh
  subst e1'
  subst e2'
  subst hst
  simp only [am_run_z, E_kk, am_rt, am_run_s, bt, lf, am_in, am_ar, am_fit, am_ld, am_ct, Nat.reduceLT, Nat.reduceEqDiff, reduceIte, Nat.reduceAdd, Nat.reduceLeDiff, Nat.reduceSub, Bool.false_eq_true, if_true, if_false, ite_true, ite_false, List.length_cons, List.length_nil, Nat.zero_add, Nat.add_zero, and_true, true_and, true_or, or_true, and_self, Nat.le_refl, Nat.lt_irrefl, gI_sI, gL_sL, gQ_sQ, gI_sJ, gI_sL, gI_sQ, gL_sI, gL_sQ, gL_sJ, gQ_sI, gQ_sL, gQ_sJ, gN_sI, gN_sL, gN_sQ, gN_sJ, E_b2_0, E_cI_a, E_cI_b, E_cV_a, E_cV_b, E_c_0, E_dup_0, E_dup_1, E_i2l_0, E_inc_a, E_inc_b, E_je_0, E_jg_0, E_jmp_0, E_jz_0, E_kk, E_l2_0, E_lcmp_0, E_ldI_a, E_ldI_b, E_ldR_a, E_ldR_b, E_lsh_0, E_new_0, E_rZ_0, E_sld_0, E_slen_0, E_stI_0, E_stR_0, E_sw_0, Nat.reduceDiv, am_cc, am_nl, am_ok, am_pop, am_rt, am_set, am_v, am_vo, am_vs, cC_11, cC_12, gI_sO, gL_sO, gN_sO, gQ_sO, nN_10, nN_3, kL_law, kL_law_11, kL_law_16]
  exact l_next (hX σ2 _ _ hI2 (by omega) (by omega))
theorem law_count {L k a b : Nat} {σ : HS} {Q : PO} (hk : k < 512) (hL : 6 * k + 6 ≤ L) (hL2 : L ≤ 3072) (hI : Inv k σ) (ha : a + 1 ≤ 600000) (hb : b + 18 ≤ 7302250) (hX : ∀ σ' a' b', Inv (k + 1) σ' → a' ≤ a + 1 → b' ≤ b + 18 → am_T (KL S1 L) MR Q 18 (lsL (k + 1)) [] σ' a' b') : am_T (KL S1 L) MR Q 860 (lsL k) [] σ a b := by
  have e1 := nI_6 k 1 1 (by decide)
  have v1 : vp_in (nI (6 * k + 1)) L := vp_in_nI (by omega) (by omega)
  have c1 : (nI (6 * k + 1)).toNatClampNeg = 6 * k + 1 := nI_clamp (by omega)
  have e2 := nI_6 k 2 2 (by decide)
  have v2 : vp_in (nI (6 * k + 2)) L := vp_in_nI (by omega) (by omega)
  have c2 : (nI (6 * k + 2)).toNatClampNeg = 6 * k + 2 := nI_clamp (by omega)
  have e3 := nI_6 k 3 3 (by decide)
  have v3 : vp_in (nI (6 * k + 3)) L := vp_in_nI (by omega) (by omega)
  have c3 : (nI (6 * k + 3)).toNatClampNeg = 6 * k + 3 := nI_clamp (by omega)
  have e4 := nI_6 k 4 4 (by decide)
  have v4 : vp_in (nI (6 * k + 4)) L := vp_in_nI (by omega) (by omega)
  have c4 : (nI (6 * k + 4)).toNatClampNeg = 6 * k + 4 := nI_clamp (by omega)
  have e5 := nI_6 k 5 5 (by decide)
  have v5 : vp_in (nI (6 * k + 5)) L := vp_in_nI (by omega) (by omega)
  have c5 : (nI (6 * k + 5)).toNatClampNeg = 6 * k + 5 := nI_clamp (by omega)
  have ha2 : a ≤ 600000 := by omega
  have hb2 : b ≤ 7302250 := by omega
  rw [h_law L 6]
  simp only [am_run_z, am_run_s, bt, lf, am_in, am_ar, am_fit, am_ld, am_ct, Nat.reduceLT, Nat.reduceEqDiff, reduceIte, Nat.reduceAdd, Nat.reduceLeDiff, Nat.reduceSub, Bool.false_eq_true, if_true, if_false, ite_true, ite_false, List.length_cons, List.length_nil, Nat.zero_add, Nat.add_zero, and_true, true_and, true_or, or_true, and_self, Nat.le_refl, Nat.lt_irrefl, gI_sI, gL_sL, gQ_sQ, gI_sJ, gI_sL, gI_sQ, gL_sI, gL_sQ, gL_sJ, gQ_sI, gQ_sL, gQ_sJ, gN_sI, gN_sL, gN_sQ, gN_sJ, E_b2_0, E_cI_a, E_cI_b, E_cV_a, E_cV_b, E_c_0, E_dup_0, E_dup_1, E_i2l_0, E_inc_a, E_inc_b, E_je_0, E_jg_0, E_jmp_0, E_jz_0, E_kk, E_l2_0, E_lcmp_0, E_ldI_a, E_ldI_b, E_ldR_a, E_ldR_b, E_lsh_0, E_new_0, E_rZ_0, E_sld_0, E_slen_0, E_stI_0, E_stR_0, E_sw_0, Nat.reduceDiv, am_cc, am_nl, am_ok, am_pop, am_rt, am_set, am_v, am_vo, am_vs, cC_11, cC_12, gI_sO, gL_sO, gN_sO, gQ_sO, nN_10, nN_3, kL_law, kL_law_11, e1, v1, c1, e2, v2, c2, e3, v3, c3, e4, v4, c4, e5, v5, c5, ha2, hb2, true_or]
  refine MM_mo _ _ _ _ _ ?_ (api_count _ k σ hk hI)
  intro r σ1 h ro
  simp only [am_run_z, E_kk, Nat.add_zero]
  have hct := ct_rt r
  generalize hst : am_rt r [] = st0 at hct ⊢
  have hc8 : am_ct st0 ≤ 8 := by omega
  have hc8_1 : 1 + am_ct st0 ≤ 8 := by omega
  have hc8_2 : 2 + am_ct st0 ≤ 8 := by omega
  have hc8_3 : 3 + am_ct st0 ≤ 8 := by omega
  have hc8_4 : 4 + am_ct st0 ≤ 8 := by omega
  have hc8_5 : 5 + am_ct st0 ≤ 8 := by omega
  have hc8_6 : 6 + am_ct st0 ≤ 8 := by omega
  have sc : ∀ j, gI σ1 20 j = gI σ 20 j := ro.1
  have ha3 : a + 0 ≤ 600000 := by omega
  have hb3 : b + 0 ≤ 7302250 := by omega
  rw [h_law L 7]
  simp only [am_run_z, am_run_s, bt, lf, am_in, am_ar, am_fit, am_ld, am_ct, Nat.reduceLT, Nat.reduceEqDiff, reduceIte, Nat.reduceAdd, Nat.reduceLeDiff, Nat.reduceSub, Bool.false_eq_true, if_true, if_false, ite_true, ite_false, List.length_cons, List.length_nil, Nat.zero_add, Nat.add_zero, and_true, true_and, true_or, or_true, and_self, Nat.le_refl, Nat.lt_irrefl, gI_sI, gL_sL, gQ_sQ, gI_sJ, gI_sL, gI_sQ, gL_sI, gL_sQ, gL_sJ, gQ_sI, gQ_sL, gQ_sJ, gN_sI, gN_sL, gN_sQ, gN_sJ, E_b2_0, E_cI_a, E_cI_b, E_cV_a, E_cV_b, E_c_0, E_dup_0, E_dup_1, E_i2l_0, E_inc_a, E_inc_b, E_je_0, E_jg_0, E_jmp_0, E_jz_0, E_kk, E_l2_0, E_lcmp_0, E_ldI_a, E_ldI_b, E_ldR_a, E_ldR_b, E_lsh_0, E_new_0, E_rZ_0, E_sld_0, E_slen_0, E_stI_0, E_stR_0, E_sw_0, Nat.reduceDiv, am_cc, am_nl, am_ok, am_pop, am_rt, am_set, am_v, am_vo, am_vs, cC_11, cC_12, gI_sO, gL_sO, gN_sO, gQ_sO, nN_10, nN_3, kL_law, kL_law_11, kL_law_16, e1, v1, c1, e2, v2, c2, e3, v3, c3, e4, v4, c4, e5, v5, c5, hc8, hc8_1, hc8_2, hc8_3, hc8_4, hc8_5, hc8_6, sc, ha3, hb3, ha2, hb2, true_or]
  refine MM_mo _ _ _ _ _ ?_ h
  intro r2 σ2 hh ro2
  obtain ⟨⟨v, e1', e2'⟩, hI2⟩ := hh
  subst e1'
  subst e2'
  subst hst
  simp only [am_run_z, E_kk, am_rt, am_run_s, bt, lf, am_in, am_ar, am_fit, am_ld, am_ct, Nat.reduceLT, Nat.reduceEqDiff, reduceIte, Nat.reduceAdd, Nat.reduceLeDiff, Nat.reduceSub, Bool.false_eq_true, if_true, if_false, ite_true, ite_false, List.length_cons, List.length_nil, Nat.zero_add, Nat.add_zero, and_true, true_and, true_or, or_true, and_self, Nat.le_refl, Nat.lt_irrefl, gI_sI, gL_sL, gQ_sQ, gI_sJ, gI_sL, gI_sQ, gL_sI, gL_sQ, gL_sJ, gQ_sI, gQ_sL, gQ_sJ, gN_sI, gN_sL, gN_sQ, gN_sJ, E_b2_0, E_cI_a, E_cI_b, E_cV_a, E_cV_b, E_c_0, E_dup_0, E_dup_1, E_i2l_0, E_inc_a, E_inc_b, E_je_0, E_jg_0, E_jmp_0, E_jz_0, E_kk, E_l2_0, E_lcmp_0, E_ldI_a, E_ldI_b, E_ldR_a, E_ldR_b, E_lsh_0, E_new_0, E_rZ_0, E_sld_0, E_slen_0, E_stI_0, E_stR_0, E_sw_0, Nat.reduceDiv, am_cc, am_nl, am_ok, am_pop, am_rt, am_set, am_v, am_vo, am_vs, cC_11, cC_12, gI_sO, gL_sO, gN_sO, gQ_sO, nN_10, nN_3, kL_law, kL_law_11, kL_law_16]
  exact l_next (hX σ2 _ _ hI2 (by omega) (by omega))
theorem law_log {L k a b : Nat} {σ : HS} {Q : PO} (hk : k < 512) (hL : 6 * k + 6 ≤ L) (hL2 : L ≤ 3072) (hI : Inv k σ) (ha : a + 1 ≤ 600000) (hb : b + 18 ≤ 7302250) (hX : ∀ σ' a' b', Inv (k + 1) σ' → a' ≤ a + 1 → b' ≤ b + 18 → am_T (KL S1 L) MR Q 18 (lsL (k + 1)) [] σ' a' b') : am_T (KL S1 L) MR Q 883 (lsL k) [] σ a b := by
  have e1 := nI_6 k 1 1 (by decide)
  have v1 : vp_in (nI (6 * k + 1)) L := vp_in_nI (by omega) (by omega)
  have c1 : (nI (6 * k + 1)).toNatClampNeg = 6 * k + 1 := nI_clamp (by omega)
  have e2 := nI_6 k 2 2 (by decide)
  have v2 : vp_in (nI (6 * k + 2)) L := vp_in_nI (by omega) (by omega)
  have c2 : (nI (6 * k + 2)).toNatClampNeg = 6 * k + 2 := nI_clamp (by omega)
  have e3 := nI_6 k 3 3 (by decide)
  have v3 : vp_in (nI (6 * k + 3)) L := vp_in_nI (by omega) (by omega)
  have c3 : (nI (6 * k + 3)).toNatClampNeg = 6 * k + 3 := nI_clamp (by omega)
  have e4 := nI_6 k 4 4 (by decide)
  have v4 : vp_in (nI (6 * k + 4)) L := vp_in_nI (by omega) (by omega)
  have c4 : (nI (6 * k + 4)).toNatClampNeg = 6 * k + 4 := nI_clamp (by omega)
  have e5 := nI_6 k 5 5 (by decide)
  have v5 : vp_in (nI (6 * k + 5)) L := vp_in_nI (by omega) (by omega)
  have c5 : (nI (6 * k + 5)).toNatClampNeg = 6 * k + 5 := nI_clamp (by omega)
  have ha2 : a ≤ 600000 := by omega
  have hb2 : b ≤ 7302250 := by omega
  rw [h_law L 11]
  simp only [am_run_z, am_run_s, bt, lf, am_in, am_ar, am_fit, am_ld, am_ct, Nat.reduceLT, Nat.reduceEqDiff, reduceIte, Nat.reduceAdd, Nat.reduceLeDiff, Nat.reduceSub, Bool.false_eq_true, if_true, if_false, ite_true, ite_false, List.length_cons, List.length_nil, Nat.zero_add, Nat.add_zero, and_true, true_and, true_or, or_true, and_self, Nat.le_refl, Nat.lt_irrefl, gI_sI, gL_sL, gQ_sQ, gI_sJ, gI_sL, gI_sQ, gL_sI, gL_sQ, gL_sJ, gQ_sI, gQ_sL, gQ_sJ, gN_sI, gN_sL, gN_sQ, gN_sJ, E_b2_0, E_cI_a, E_cI_b, E_cV_a, E_cV_b, E_c_0, E_dup_0, E_dup_1, E_i2l_0, E_inc_a, E_inc_b, E_je_0, E_jg_0, E_jmp_0, E_jz_0, E_kk, E_l2_0, E_lcmp_0, E_ldI_a, E_ldI_b, E_ldR_a, E_ldR_b, E_lsh_0, E_new_0, E_rZ_0, E_sld_0, E_slen_0, E_stI_0, E_stR_0, E_sw_0, Nat.reduceDiv, am_cc, am_nl, am_ok, am_pop, am_rt, am_set, am_v, am_vo, am_vs, cC_11, cC_12, gI_sO, gL_sO, gN_sO, gQ_sO, nN_10, nN_3, kL_law, kL_law_11, e1, v1, c1, e2, v2, c2, e3, v3, c3, e4, v4, c4, e5, v5, c5, ha2, hb2, true_or]
  refine MM_mo _ _ _ _ _ ?_ (api_log _ _ k σ hk hI)
  intro r σ1 h ro
  simp only [am_run_z, E_kk, Nat.add_zero]
  have hct := ct_rt r
  generalize hst : am_rt r [] = st0 at hct ⊢
  have hc8 : am_ct st0 ≤ 8 := by omega
  have hc8_1 : 1 + am_ct st0 ≤ 8 := by omega
  have hc8_2 : 2 + am_ct st0 ≤ 8 := by omega
  have hc8_3 : 3 + am_ct st0 ≤ 8 := by omega
  have hc8_4 : 4 + am_ct st0 ≤ 8 := by omega
  have hc8_5 : 5 + am_ct st0 ≤ 8 := by omega
  have hc8_6 : 6 + am_ct st0 ≤ 8 := by omega
  have sc : ∀ j, gI σ1 20 j = gI σ 20 j := ro.1
  have ha3 : a + 0 ≤ 600000 := by omega
  have hb3 : b + 0 ≤ 7302250 := by omega
  rw [h_law L 12]
  simp only [am_run_z, am_run_s, bt, lf, am_in, am_ar, am_fit, am_ld, am_ct, Nat.reduceLT, Nat.reduceEqDiff, reduceIte, Nat.reduceAdd, Nat.reduceLeDiff, Nat.reduceSub, Bool.false_eq_true, if_true, if_false, ite_true, ite_false, List.length_cons, List.length_nil, Nat.zero_add, Nat.add_zero, and_true, true_and, true_or, or_true, and_self, Nat.le_refl, Nat.lt_irrefl, gI_sI, gL_sL, gQ_sQ, gI_sJ, gI_sL, gI_sQ, gL_sI, gL_sQ, gL_sJ, gQ_sI, gQ_sL, gQ_sJ, gN_sI, gN_sL, gN_sQ, gN_sJ, E_b2_0, E_cI_a, E_cI_b, E_cV_a, E_cV_b, E_c_0, E_dup_0, E_dup_1, E_i2l_0, E_inc_a, E_inc_b, E_je_0, E_jg_0, E_jmp_0, E_jz_0, E_kk, E_l2_0, E_lcmp_0, E_ldI_a, E_ldI_b, E_ldR_a, E_ldR_b, E_lsh_0, E_new_0, E_rZ_0, E_sld_0, E_slen_0, E_stI_0, E_stR_0, E_sw_0, Nat.reduceDiv, am_cc, am_nl, am_ok, am_pop, am_rt, am_set, am_v, am_vo, am_vs, cC_11, cC_12, gI_sO, gL_sO, gN_sO, gQ_sO, nN_10, nN_3, kL_law, kL_law_11, kL_law_12, kL_law_16, e1, v1, c1, e2, v2, c2, e3, v3, c3, e4, v4, c4, e5, v5, c5, hc8, hc8_1, hc8_2, hc8_3, hc8_4, hc8_5, hc8_6, sc, ha3, hb3, ha2, hb2, true_or]
  refine MM_mo _ _ _ _ _ ?_ h
  intro r2 σ2 hh ro2
  obtain ⟨⟨v, e1', e2'⟩, hI2⟩ := hh
  subst e1'
  subst e2'
  subst hst
  simp only [am_run_z, E_kk, am_rt, am_run_s, bt, lf, am_in, am_ar, am_fit, am_ld, am_ct, Nat.reduceLT, Nat.reduceEqDiff, reduceIte, Nat.reduceAdd, Nat.reduceLeDiff, Nat.reduceSub, Bool.false_eq_true, if_true, if_false, ite_true, ite_false, List.length_cons, List.length_nil, Nat.zero_add, Nat.add_zero, and_true, true_and, true_or, or_true, and_self, Nat.le_refl, Nat.lt_irrefl, gI_sI, gL_sL, gQ_sQ, gI_sJ, gI_sL, gI_sQ, gL_sI, gL_sQ, gL_sJ, gQ_sI, gQ_sL, gQ_sJ, gN_sI, gN_sL, gN_sQ, gN_sJ, E_b2_0, E_cI_a, E_cI_b, E_cV_a, E_cV_b, E_c_0, E_dup_0, E_dup_1, E_i2l_0, E_inc_a, E_inc_b, E_je_0, E_jg_0, E_jmp_0, E_jz_0, E_kk, E_l2_0, E_lcmp_0, E_ldI_a, E_ldI_b, E_ldR_a, E_ldR_b, E_lsh_0, E_new_0, E_rZ_0, E_sld_0, E_slen_0, E_stI_0, E_stR_0, E_sw_0, Nat.reduceDiv, am_cc, am_nl, am_ok, am_pop, am_rt, am_set, am_v, am_vo, am_vs, cC_11, cC_12, gI_sO, gL_sO, gN_sO, gQ_sO, nN_10, nN_3, kL_law, kL_law_11, kL_law_12, kL_law_16]
  exact l_next (hX σ2 _ _ hI2 (by omega) (by omega))
theorem law_every {L k a b : Nat} {σ : HS} {Q : PO} (hk : k < 512) (hL : 6 * k + 6 ≤ L) (hL2 : L ≤ 3072) (hI : Inv k σ) (ha : a + 1 ≤ 600000) (hb : b + 18 ≤ 7302250) (hX : ∀ σ' a' b', Inv (k + 1) σ' → a' ≤ a + 1 → b' ≤ b + 18 → am_T (KL S1 L) MR Q 18 (lsL (k + 1)) [] σ' a' b') : am_T (KL S1 L) MR Q 916 (lsL k) [] σ a b := by
  have e1 := nI_6 k 1 1 (by decide)
  have v1 : vp_in (nI (6 * k + 1)) L := vp_in_nI (by omega) (by omega)
  have c1 : (nI (6 * k + 1)).toNatClampNeg = 6 * k + 1 := nI_clamp (by omega)
  have e2 := nI_6 k 2 2 (by decide)
  have v2 : vp_in (nI (6 * k + 2)) L := vp_in_nI (by omega) (by omega)
  have c2 : (nI (6 * k + 2)).toNatClampNeg = 6 * k + 2 := nI_clamp (by omega)
  have e3 := nI_6 k 3 3 (by decide)
  have v3 : vp_in (nI (6 * k + 3)) L := vp_in_nI (by omega) (by omega)
  have c3 : (nI (6 * k + 3)).toNatClampNeg = 6 * k + 3 := nI_clamp (by omega)
  have e4 := nI_6 k 4 4 (by decide)
  have v4 : vp_in (nI (6 * k + 4)) L := vp_in_nI (by omega) (by omega)
  have c4 : (nI (6 * k + 4)).toNatClampNeg = 6 * k + 4 := nI_clamp (by omega)
  have e5 := nI_6 k 5 5 (by decide)
  have v5 : vp_in (nI (6 * k + 5)) L := vp_in_nI (by omega) (by omega)
  have c5 : (nI (6 * k + 5)).toNatClampNeg = 6 * k + 5 := nI_clamp (by omega)
  have ha2 : a ≤ 600000 := by omega
  have hb2 : b ≤ 7302250 := by omega
  rw [h_law L 6]
  simp only [am_run_z, am_run_s, bt, lf, am_in, am_ar, am_fit, am_ld, am_ct, Nat.reduceLT, Nat.reduceEqDiff, reduceIte, Nat.reduceAdd, Nat.reduceLeDiff, Nat.reduceSub, Bool.false_eq_true, if_true, if_false, ite_true, ite_false, List.length_cons, List.length_nil, Nat.zero_add, Nat.add_zero, and_true, true_and, true_or, or_true, and_self, Nat.le_refl, Nat.lt_irrefl, gI_sI, gL_sL, gQ_sQ, gI_sJ, gI_sL, gI_sQ, gL_sI, gL_sQ, gL_sJ, gQ_sI, gQ_sL, gQ_sJ, gN_sI, gN_sL, gN_sQ, gN_sJ, E_b2_0, E_cI_a, E_cI_b, E_cV_a, E_cV_b, E_c_0, E_dup_0, E_dup_1, E_i2l_0, E_inc_a, E_inc_b, E_je_0, E_jg_0, E_jmp_0, E_jz_0, E_kk, E_l2_0, E_lcmp_0, E_ldI_a, E_ldI_b, E_ldR_a, E_ldR_b, E_lsh_0, E_new_0, E_rZ_0, E_sld_0, E_slen_0, E_stI_0, E_stR_0, E_sw_0, Nat.reduceDiv, am_cc, am_nl, am_ok, am_pop, am_rt, am_set, am_v, am_vo, am_vs, cC_11, cC_12, gI_sO, gL_sO, gN_sO, gQ_sO, nN_10, nN_3, kL_law, kL_law_12, e1, v1, c1, e2, v2, c2, e3, v3, c3, e4, v4, c4, e5, v5, c5, ha2, hb2, true_or]
  refine MM_mo _ _ _ _ _ ?_ (api_every _ k σ hk hI)
  intro r σ1 h ro
  simp only [am_run_z, E_kk, Nat.add_zero]
  have hct := ct_rt r
  generalize hst : am_rt r [] = st0 at hct ⊢
  have hc8 : am_ct st0 ≤ 8 := by omega
  have hc8_1 : 1 + am_ct st0 ≤ 8 := by omega
  have hc8_2 : 2 + am_ct st0 ≤ 8 := by omega
  have hc8_3 : 3 + am_ct st0 ≤ 8 := by omega
  have hc8_4 : 4 + am_ct st0 ≤ 8 := by omega
  have hc8_5 : 5 + am_ct st0 ≤ 8 := by omega
  have hc8_6 : 6 + am_ct st0 ≤ 8 := by omega
  have sc : ∀ j, gI σ1 20 j = gI σ 20 j := ro.1
  have ha3 : a + 0 ≤ 600000 := by omega
  have hb3 : b + 0 ≤ 7302250 := by omega
  rw [h_law L 7]
  simp only [am_run_z, am_run_s, bt, lf, am_in, am_ar, am_fit, am_ld, am_ct, Nat.reduceLT, Nat.reduceEqDiff, reduceIte, Nat.reduceAdd, Nat.reduceLeDiff, Nat.reduceSub, Bool.false_eq_true, if_true, if_false, ite_true, ite_false, List.length_cons, List.length_nil, Nat.zero_add, Nat.add_zero, and_true, true_and, true_or, or_true, and_self, Nat.le_refl, Nat.lt_irrefl, gI_sI, gL_sL, gQ_sQ, gI_sJ, gI_sL, gI_sQ, gL_sI, gL_sQ, gL_sJ, gQ_sI, gQ_sL, gQ_sJ, gN_sI, gN_sL, gN_sQ, gN_sJ, E_b2_0, E_cI_a, E_cI_b, E_cV_a, E_cV_b, E_c_0, E_dup_0, E_dup_1, E_i2l_0, E_inc_a, E_inc_b, E_je_0, E_jg_0, E_jmp_0, E_jz_0, E_kk, E_l2_0, E_lcmp_0, E_ldI_a, E_ldI_b, E_ldR_a, E_ldR_b, E_lsh_0, E_new_0, E_rZ_0, E_sld_0, E_slen_0, E_stI_0, E_stR_0, E_sw_0, Nat.reduceDiv, am_cc, am_nl, am_ok, am_pop, am_rt, am_set, am_v, am_vo, am_vs, cC_11, cC_12, gI_sO, gL_sO, gN_sO, gQ_sO, nN_10, nN_3, kL_law, kL_law_12, kL_law_16, e1, v1, c1, e2, v2, c2, e3, v3, c3, e4, v4, c4, e5, v5, c5, hc8, hc8_1, hc8_2, hc8_3, hc8_4, hc8_5, hc8_6, sc, ha3, hb3, ha2, hb2, true_or]
  refine MM_mo _ _ _ _ _ ?_ h
  intro r2 σ2 hh ro2
  obtain ⟨⟨v, e1', e2'⟩, hI2⟩ := hh
  subst e1'
  subst e2'
  subst hst
  simp only [am_run_z, E_kk, am_rt, am_run_s, bt, lf, am_in, am_ar, am_fit, am_ld, am_ct, Nat.reduceLT, Nat.reduceEqDiff, reduceIte, Nat.reduceAdd, Nat.reduceLeDiff, Nat.reduceSub, Bool.false_eq_true, if_true, if_false, ite_true, ite_false, List.length_cons, List.length_nil, Nat.zero_add, Nat.add_zero, and_true, true_and, true_or, or_true, and_self, Nat.le_refl, Nat.lt_irrefl, gI_sI, gL_sL, gQ_sQ, gI_sJ, gI_sL, gI_sQ, gL_sI, gL_sQ, gL_sJ, gQ_sI, gQ_sL, gQ_sJ, gN_sI, gN_sL, gN_sQ, gN_sJ, E_b2_0, E_cI_a, E_cI_b, E_cV_a, E_cV_b, E_c_0, E_dup_0, E_dup_1, E_i2l_0, E_inc_a, E_inc_b, E_je_0, E_jg_0, E_jmp_0, E_jz_0, E_kk, E_l2_0, E_lcmp_0, E_ldI_a, E_ldI_b, E_ldR_a, E_ldR_b, E_lsh_0, E_new_0, E_rZ_0, E_sld_0, E_slen_0, E_stI_0, E_stR_0, E_sw_0, Nat.reduceDiv, am_cc, am_nl, am_ok, am_pop, am_rt, am_set, am_v, am_vo, am_vs, cC_11, cC_12, gI_sO, gL_sO, gN_sO, gQ_sO, nN_10, nN_3, kL_law, kL_law_12, kL_law_16]
  exact l_next (hX σ2 _ _ hI2 (by omega) (by omega))
theorem law_most {L k a b : Nat} {σ : HS} {Q : PO} (hk : k < 512) (hL : 6 * k + 6 ≤ L) (hL2 : L ≤ 3072) (hI : Inv k σ) (ha : a + 1 ≤ 600000) (hb : b + 18 ≤ 7302250) (hX : ∀ σ' a' b', Inv (k + 1) σ' → a' ≤ a + 1 → b' ≤ b + 18 → am_T (KL S1 L) MR Q 18 (lsL (k + 1)) [] σ' a' b') : am_T (KL S1 L) MR Q 939 (lsL k) [] σ a b := by
  have e1 := nI_6 k 1 1 (by decide)
  have v1 : vp_in (nI (6 * k + 1)) L := vp_in_nI (by omega) (by omega)
  have c1 : (nI (6 * k + 1)).toNatClampNeg = 6 * k + 1 := nI_clamp (by omega)
  have e2 := nI_6 k 2 2 (by decide)
  have v2 : vp_in (nI (6 * k + 2)) L := vp_in_nI (by omega) (by omega)
  have c2 : (nI (6 * k + 2)).toNatClampNeg = 6 * k + 2 := nI_clamp (by omega)
  have e3 := nI_6 k 3 3 (by decide)
  have v3 : vp_in (nI (6 * k + 3)) L := vp_in_nI (by omega) (by omega)
  have c3 : (nI (6 * k + 3)).toNatClampNeg = 6 * k + 3 := nI_clamp (by omega)
  have e4 := nI_6 k 4 4 (by decide)
  have v4 : vp_in (nI (6 * k + 4)) L := vp_in_nI (by omega) (by omega)
  have c4 : (nI (6 * k + 4)).toNatClampNeg = 6 * k + 4 := nI_clamp (by omega)
  have e5 := nI_6 k 5 5 (by decide)
  have v5 : vp_in (nI (6 * k + 5)) L := vp_in_nI (by omega) (by omega)
  have c5 : (nI (6 * k + 5)).toNatClampNeg = 6 * k + 5 := nI_clamp (by omega)
  have ha2 : a ≤ 600000 := by omega
  have hb2 : b ≤ 7302250 := by omega
  rw [h_law L 6]
  simp only [am_run_z, am_run_s, bt, lf, am_in, am_ar, am_fit, am_ld, am_ct, Nat.reduceLT, Nat.reduceEqDiff, reduceIte, Nat.reduceAdd, Nat.reduceLeDiff, Nat.reduceSub, Bool.false_eq_true, if_true, if_false, ite_true, ite_false, List.length_cons, List.length_nil, Nat.zero_add, Nat.add_zero, and_true, true_and, true_or, or_true, and_self, Nat.le_refl, Nat.lt_irrefl, gI_sI, gL_sL, gQ_sQ, gI_sJ, gI_sL, gI_sQ, gL_sI, gL_sQ, gL_sJ, gQ_sI, gQ_sL, gQ_sJ, gN_sI, gN_sL, gN_sQ, gN_sJ, E_b2_0, E_cI_a, E_cI_b, E_cV_a, E_cV_b, E_c_0, E_dup_0, E_dup_1, E_i2l_0, E_inc_a, E_inc_b, E_je_0, E_jg_0, E_jmp_0, E_jz_0, E_kk, E_l2_0, E_lcmp_0, E_ldI_a, E_ldI_b, E_ldR_a, E_ldR_b, E_lsh_0, E_new_0, E_rZ_0, E_sld_0, E_slen_0, E_stI_0, E_stR_0, E_sw_0, Nat.reduceDiv, am_cc, am_nl, am_ok, am_pop, am_rt, am_set, am_v, am_vo, am_vs, cC_11, cC_12, gI_sO, gL_sO, gN_sO, gQ_sO, nN_10, nN_3, kL_law, kL_law_12, e1, v1, c1, e2, v2, c2, e3, v3, c3, e4, v4, c4, e5, v5, c5, ha2, hb2, true_or]
  refine MM_mo _ _ _ _ _ ?_ (api_most _ k σ hk hI)
  intro r σ1 h ro
  simp only [am_run_z, E_kk, Nat.add_zero]
  have hct := ct_rt r
  generalize hst : am_rt r [] = st0 at hct ⊢
  have hc8 : am_ct st0 ≤ 8 := by omega
  have hc8_1 : 1 + am_ct st0 ≤ 8 := by omega
  have hc8_2 : 2 + am_ct st0 ≤ 8 := by omega
  have hc8_3 : 3 + am_ct st0 ≤ 8 := by omega
  have hc8_4 : 4 + am_ct st0 ≤ 8 := by omega
  have hc8_5 : 5 + am_ct st0 ≤ 8 := by omega
  have hc8_6 : 6 + am_ct st0 ≤ 8 := by omega
  have sc : ∀ j, gI σ1 20 j = gI σ 20 j := ro.1
  have ha3 : a + 0 ≤ 600000 := by omega
  have hb3 : b + 0 ≤ 7302250 := by omega
  rw [h_law L 7]
  simp only [am_run_z, am_run_s, bt, lf, am_in, am_ar, am_fit, am_ld, am_ct, Nat.reduceLT, Nat.reduceEqDiff, reduceIte, Nat.reduceAdd, Nat.reduceLeDiff, Nat.reduceSub, Bool.false_eq_true, if_true, if_false, ite_true, ite_false, List.length_cons, List.length_nil, Nat.zero_add, Nat.add_zero, and_true, true_and, true_or, or_true, and_self, Nat.le_refl, Nat.lt_irrefl, gI_sI, gL_sL, gQ_sQ, gI_sJ, gI_sL, gI_sQ, gL_sI, gL_sQ, gL_sJ, gQ_sI, gQ_sL, gQ_sJ, gN_sI, gN_sL, gN_sQ, gN_sJ, E_b2_0, E_cI_a, E_cI_b, E_cV_a, E_cV_b, E_c_0, E_dup_0, E_dup_1, E_i2l_0, E_inc_a, E_inc_b, E_je_0, E_jg_0, E_jmp_0, E_jz_0, E_kk, E_l2_0, E_lcmp_0, E_ldI_a, E_ldI_b, E_ldR_a, E_ldR_b, E_lsh_0, E_new_0, E_rZ_0, E_sld_0, E_slen_0, E_stI_0, E_stR_0, E_sw_0, Nat.reduceDiv, am_cc, am_nl, am_ok, am_pop, am_rt, am_set, am_v, am_vo, am_vs, cC_11, cC_12, gI_sO, gL_sO, gN_sO, gQ_sO, nN_10, nN_3, kL_law, kL_law_12, kL_law_16, e1, v1, c1, e2, v2, c2, e3, v3, c3, e4, v4, c4, e5, v5, c5, hc8, hc8_1, hc8_2, hc8_3, hc8_4, hc8_5, hc8_6, sc, ha3, hb3, ha2, hb2, true_or]
  refine MM_mo _ _ _ _ _ ?_ h
  intro r2 σ2 hh ro2
  obtain ⟨⟨v, e1', e2'⟩, hI2⟩ := hh
  subst e1'
  subst e2'
  subst hst
  simp only [am_run_z, E_kk, am_rt, am_run_s, bt, lf, am_in, am_ar, am_fit, am_ld, am_ct, Nat.reduceLT, Nat.reduceEqDiff, reduceIte, Nat.reduceAdd, Nat.reduceLeDiff, Nat.reduceSub, Bool.false_eq_true, if_true, if_false, ite_true, ite_false, List.length_cons, List.length_nil, Nat.zero_add, Nat.add_zero, and_true, true_and, true_or, or_true, and_self, Nat.le_refl, Nat.lt_irrefl, gI_sI, gL_sL, gQ_sQ, gI_sJ, gI_sL, gI_sQ, gL_sI, gL_sQ, gL_sJ, gQ_sI, gQ_sL, gQ_sJ, gN_sI, gN_sL, gN_sQ, gN_sJ, E_b2_0, E_cI_a, E_cI_b, E_cV_a, E_cV_b, E_c_0, E_dup_0, E_dup_1, E_i2l_0, E_inc_a, E_inc_b, E_je_0, E_jg_0, E_jmp_0, E_jz_0, E_kk, E_l2_0, E_lcmp_0, E_ldI_a, E_ldI_b, E_ldR_a, E_ldR_b, E_lsh_0, E_new_0, E_rZ_0, E_sld_0, E_slen_0, E_stI_0, E_stR_0, E_sw_0, Nat.reduceDiv, am_cc, am_nl, am_ok, am_pop, am_rt, am_set, am_v, am_vo, am_vs, cC_11, cC_12, gI_sO, gL_sO, gN_sO, gQ_sO, nN_10, nN_3, kL_law, kL_law_12, kL_law_16]
  exact l_next (hX σ2 _ _ hI2 (by omega) (by omega))
theorem law_worst {L k a b : Nat} {σ : HS} {Q : PO} (hk : k < 512) (hL : 6 * k + 6 ≤ L) (hL2 : L ≤ 3072) (hI : Inv k σ) (ha : a + 1 ≤ 600000) (hb : b + 18 ≤ 7302250) (hX : ∀ σ' a' b', Inv (k + 1) σ' → a' ≤ a + 1 → b' ≤ b + 18 → am_T (KL S1 L) MR Q 18 (lsL (k + 1)) [] σ' a' b') : am_T (KL S1 L) MR Q 962 (lsL k) [] σ a b := by
  have e1 := nI_6 k 1 1 (by decide)
  have v1 : vp_in (nI (6 * k + 1)) L := vp_in_nI (by omega) (by omega)
  have c1 : (nI (6 * k + 1)).toNatClampNeg = 6 * k + 1 := nI_clamp (by omega)
  have e2 := nI_6 k 2 2 (by decide)
  have v2 : vp_in (nI (6 * k + 2)) L := vp_in_nI (by omega) (by omega)
  have c2 : (nI (6 * k + 2)).toNatClampNeg = 6 * k + 2 := nI_clamp (by omega)
  have e3 := nI_6 k 3 3 (by decide)
  have v3 : vp_in (nI (6 * k + 3)) L := vp_in_nI (by omega) (by omega)
  have c3 : (nI (6 * k + 3)).toNatClampNeg = 6 * k + 3 := nI_clamp (by omega)
  have e4 := nI_6 k 4 4 (by decide)
  have v4 : vp_in (nI (6 * k + 4)) L := vp_in_nI (by omega) (by omega)
  have c4 : (nI (6 * k + 4)).toNatClampNeg = 6 * k + 4 := nI_clamp (by omega)
  have e5 := nI_6 k 5 5 (by decide)
  have v5 : vp_in (nI (6 * k + 5)) L := vp_in_nI (by omega) (by omega)
  have c5 : (nI (6 * k + 5)).toNatClampNeg = 6 * k + 5 := nI_clamp (by omega)
  have ha2 : a ≤ 600000 := by omega
  have hb2 : b ≤ 7302250 := by omega
  rw [h_law L 6]
  simp only [am_run_z, am_run_s, bt, lf, am_in, am_ar, am_fit, am_ld, am_ct, Nat.reduceLT, Nat.reduceEqDiff, reduceIte, Nat.reduceAdd, Nat.reduceLeDiff, Nat.reduceSub, Bool.false_eq_true, if_true, if_false, ite_true, ite_false, List.length_cons, List.length_nil, Nat.zero_add, Nat.add_zero, and_true, true_and, true_or, or_true, and_self, Nat.le_refl, Nat.lt_irrefl, gI_sI, gL_sL, gQ_sQ, gI_sJ, gI_sL, gI_sQ, gL_sI, gL_sQ, gL_sJ, gQ_sI, gQ_sL, gQ_sJ, gN_sI, gN_sL, gN_sQ, gN_sJ, E_b2_0, E_cI_a, E_cI_b, E_cV_a, E_cV_b, E_c_0, E_dup_0, E_dup_1, E_i2l_0, E_inc_a, E_inc_b, E_je_0, E_jg_0, E_jmp_0, E_jz_0, E_kk, E_l2_0, E_lcmp_0, E_ldI_a, E_ldI_b, E_ldR_a, E_ldR_b, E_lsh_0, E_new_0, E_rZ_0, E_sld_0, E_slen_0, E_stI_0, E_stR_0, E_sw_0, Nat.reduceDiv, am_cc, am_nl, am_ok, am_pop, am_rt, am_set, am_v, am_vo, am_vs, cC_11, cC_12, gI_sO, gL_sO, gN_sO, gQ_sO, nN_10, nN_3, kL_law, kL_law_12, e1, v1, c1, e2, v2, c2, e3, v3, c3, e4, v4, c4, e5, v5, c5, ha2, hb2, true_or]
  refine MM_mo _ _ _ _ _ ?_ (api_worst _ k σ hk hI)
  intro r σ1 h ro
  simp only [am_run_z, E_kk, Nat.add_zero]
  have hct := ct_rt r
  generalize hst : am_rt r [] = st0 at hct ⊢
  have hc8 : am_ct st0 ≤ 8 := by omega
  have hc8_1 : 1 + am_ct st0 ≤ 8 := by omega
  have hc8_2 : 2 + am_ct st0 ≤ 8 := by omega
  have hc8_3 : 3 + am_ct st0 ≤ 8 := by omega
  have hc8_4 : 4 + am_ct st0 ≤ 8 := by omega
  have hc8_5 : 5 + am_ct st0 ≤ 8 := by omega
  have hc8_6 : 6 + am_ct st0 ≤ 8 := by omega
  have sc : ∀ j, gI σ1 20 j = gI σ 20 j := ro.1
  have ha3 : a + 0 ≤ 600000 := by omega
  have hb3 : b + 0 ≤ 7302250 := by omega
  rw [h_law L 7]
  simp only [am_run_z, am_run_s, bt, lf, am_in, am_ar, am_fit, am_ld, am_ct, Nat.reduceLT, Nat.reduceEqDiff, reduceIte, Nat.reduceAdd, Nat.reduceLeDiff, Nat.reduceSub, Bool.false_eq_true, if_true, if_false, ite_true, ite_false, List.length_cons, List.length_nil, Nat.zero_add, Nat.add_zero, and_true, true_and, true_or, or_true, and_self, Nat.le_refl, Nat.lt_irrefl, gI_sI, gL_sL, gQ_sQ, gI_sJ, gI_sL, gI_sQ, gL_sI, gL_sQ, gL_sJ, gQ_sI, gQ_sL, gQ_sJ, gN_sI, gN_sL, gN_sQ, gN_sJ, E_b2_0, E_cI_a, E_cI_b, E_cV_a, E_cV_b, E_c_0, E_dup_0, E_dup_1, E_i2l_0, E_inc_a, E_inc_b, E_je_0, E_jg_0, E_jmp_0, E_jz_0, E_kk, E_l2_0, E_lcmp_0, E_ldI_a, E_ldI_b, E_ldR_a, E_ldR_b, E_lsh_0, E_new_0, E_rZ_0, E_sld_0, E_slen_0, E_stI_0, E_stR_0, E_sw_0, Nat.reduceDiv, am_cc, am_nl, am_ok, am_pop, am_rt, am_set, am_v, am_vo, am_vs, cC_11, cC_12, gI_sO, gL_sO, gN_sO, gQ_sO, nN_10, nN_3, kL_law, kL_law_12, kL_law_13, kL_law_16, e1, v1, c1, e2, v2, c2, e3, v3, c3, e4, v4, c4, e5, v5, c5, hc8, hc8_1, hc8_2, hc8_3, hc8_4, hc8_5, hc8_6, sc, ha3, hb3, ha2, hb2, true_or]
  refine MM_mo _ _ _ _ _ ?_ h
  intro r2 σ2 hh ro2
  obtain ⟨⟨v, e1', e2'⟩, hI2⟩ := hh
  subst e1'
  subst e2'
  subst hst
  simp only [am_run_z, E_kk, am_rt, am_run_s, bt, lf, am_in, am_ar, am_fit, am_ld, am_ct, Nat.reduceLT, Nat.reduceEqDiff, reduceIte, Nat.reduceAdd, Nat.reduceLeDiff, Nat.reduceSub, Bool.false_eq_true, if_true, if_false, ite_true, ite_false, List.length_cons, List.length_nil, Nat.zero_add, Nat.add_zero, and_true, true_and, true_or, or_true, and_self, Nat.le_refl, Nat.lt_irrefl, gI_sI, gL_sL, gQ_sQ, gI_sJ, gI_sL, gI_sQ, gL_sI, gL_sQ, gL_sJ, gQ_sI, gQ_sL, gQ_sJ, gN_sI, gN_sL, gN_sQ, gN_sJ, E_b2_0, E_cI_a, E_cI_b, E_cV_a, E_cV_b, E_c_0, E_dup_0, E_dup_1, E_i2l_0, E_inc_a, E_inc_b, E_je_0, E_jg_0, E_jmp_0, E_jz_0, E_kk, E_l2_0, E_lcmp_0, E_ldI_a, E_ldI_b, E_ldR_a, E_ldR_b, E_lsh_0, E_new_0, E_rZ_0, E_sld_0, E_slen_0, E_stI_0, E_stR_0, E_sw_0, Nat.reduceDiv, am_cc, am_nl, am_ok, am_pop, am_rt, am_set, am_v, am_vo, am_vs, cC_11, cC_12, gI_sO, gL_sO, gN_sO, gQ_sO, nN_10, nN_3, kL_law, kL_law_12, kL_law_13, kL_law_16]
  exact l_next (hX σ2 _ _ hI2 (by omega) (by omega))
theorem law_misses {L k a b : Nat} {σ : HS} {Q : PO} (hk : k < 512) (hL : 6 * k + 6 ≤ L) (hL2 : L ≤ 3072) (hI : Inv k σ) (ha : a + 1 ≤ 600000) (hb : b + 18 ≤ 7302250) (hX : ∀ σ' a' b', Inv (k + 1) σ' → a' ≤ a + 1 → b' ≤ b + 18 → am_T (KL S1 L) MR Q 18 (lsL (k + 1)) [] σ' a' b') : am_T (KL S1 L) MR Q 985 (lsL k) [] σ a b := by
  have ha2 : a ≤ 600000 := by omega
  have hb2 : b ≤ 7302250 := by omega
  rw [h_law L 1]
  simp only [am_run_z, am_run_s, bt, lf, am_in, am_ar, am_fit, am_ld, am_ct, Nat.reduceLT, Nat.reduceEqDiff, reduceIte, Nat.reduceAdd, Nat.reduceLeDiff, Nat.reduceSub, Bool.false_eq_true, if_true, if_false, ite_true, ite_false, List.length_cons, List.length_nil, Nat.zero_add, Nat.add_zero, and_true, true_and, true_or, or_true, and_self, Nat.le_refl, Nat.lt_irrefl, gI_sI, gL_sL, gQ_sQ, gI_sJ, gI_sL, gI_sQ, gL_sI, gL_sQ, gL_sJ, gQ_sI, gQ_sL, gQ_sJ, gN_sI, gN_sL, gN_sQ, gN_sJ, E_b2_0, E_cI_a, E_cI_b, E_cV_a, E_cV_b, E_c_0, E_dup_0, E_dup_1, E_i2l_0, E_inc_a, E_inc_b, E_je_0, E_jg_0, E_jmp_0, E_jz_0, E_kk, E_l2_0, E_lcmp_0, E_ldI_a, E_ldI_b, E_ldR_a, E_ldR_b, E_lsh_0, E_new_0, E_rZ_0, E_sld_0, E_slen_0, E_stI_0, E_stR_0, E_sw_0, Nat.reduceDiv, am_cc, am_nl, am_ok, am_pop, am_rt, am_set, am_v, am_vo, am_vs, cC_11, cC_12, gI_sO, gL_sO, gN_sO, gQ_sO, nN_10, nN_3, kL_law, kL_law_13, ha2, hb2, true_or]
  refine MM_mo _ _ _ _ _ ?_ (api_misses k σ hk hI)
  intro r σ1 h ro
  simp only [am_run_z, E_kk, Nat.add_zero]
  have hct := ct_rt r
  generalize hst : am_rt r [] = st0 at hct ⊢
  have hc8 : am_ct st0 ≤ 8 := by omega
  have hc8_1 : 1 + am_ct st0 ≤ 8 := by omega
  have hc8_2 : 2 + am_ct st0 ≤ 8 := by omega
  have hc8_3 : 3 + am_ct st0 ≤ 8 := by omega
  have hc8_4 : 4 + am_ct st0 ≤ 8 := by omega
  have hc8_5 : 5 + am_ct st0 ≤ 8 := by omega
  have hc8_6 : 6 + am_ct st0 ≤ 8 := by omega
  have ha3 : a + 0 ≤ 600000 := by omega
  have hb3 : b + 0 ≤ 7302250 := by omega
  rw [h_law L 2]
  simp only [am_run_z, am_run_s, bt, lf, am_in, am_ar, am_fit, am_ld, am_ct, Nat.reduceLT, Nat.reduceEqDiff, reduceIte, Nat.reduceAdd, Nat.reduceLeDiff, Nat.reduceSub, Bool.false_eq_true, if_true, if_false, ite_true, ite_false, List.length_cons, List.length_nil, Nat.zero_add, Nat.add_zero, and_true, true_and, true_or, or_true, and_self, Nat.le_refl, Nat.lt_irrefl, gI_sI, gL_sL, gQ_sQ, gI_sJ, gI_sL, gI_sQ, gL_sI, gL_sQ, gL_sJ, gQ_sI, gQ_sL, gQ_sJ, gN_sI, gN_sL, gN_sQ, gN_sJ, E_b2_0, E_cI_a, E_cI_b, E_cV_a, E_cV_b, E_c_0, E_dup_0, E_dup_1, E_i2l_0, E_inc_a, E_inc_b, E_je_0, E_jg_0, E_jmp_0, E_jz_0, E_kk, E_l2_0, E_lcmp_0, E_ldI_a, E_ldI_b, E_ldR_a, E_ldR_b, E_lsh_0, E_new_0, E_rZ_0, E_sld_0, E_slen_0, E_stI_0, E_stR_0, E_sw_0, Nat.reduceDiv, am_cc, am_nl, am_ok, am_pop, am_rt, am_set, am_v, am_vo, am_vs, cC_11, cC_12, gI_sO, gL_sO, gN_sO, gQ_sO, nN_10, nN_3, kL_law, kL_law_13, kL_law_16, hc8, hc8_1, hc8_2, hc8_3, hc8_4, hc8_5, hc8_6, E_kk, ha3, hb3, ha2, hb2, true_or]
  refine MM_mo _ _ _ _ _ ?_ h
  intro r2 σ2 hh ro2
  obtain ⟨⟨v, e1', e2'⟩, hI2⟩ := hh
  subst e1'
  subst e2'
  subst hst
  simp only [am_run_z, E_kk, am_rt, am_run_s, bt, lf, am_in, am_ar, am_fit, am_ld, am_ct, Nat.reduceLT, Nat.reduceEqDiff, reduceIte, Nat.reduceAdd, Nat.reduceLeDiff, Nat.reduceSub, Bool.false_eq_true, if_true, if_false, ite_true, ite_false, List.length_cons, List.length_nil, Nat.zero_add, Nat.add_zero, and_true, true_and, true_or, or_true, and_self, Nat.le_refl, Nat.lt_irrefl, gI_sI, gL_sL, gQ_sQ, gI_sJ, gI_sL, gI_sQ, gL_sI, gL_sQ, gL_sJ, gQ_sI, gQ_sL, gQ_sJ, gN_sI, gN_sL, gN_sQ, gN_sJ, E_b2_0, E_cI_a, E_cI_b, E_cV_a, E_cV_b, E_c_0, E_dup_0, E_dup_1, E_i2l_0, E_inc_a, E_inc_b, E_je_0, E_jg_0, E_jmp_0, E_jz_0, E_kk, E_l2_0, E_lcmp_0, E_ldI_a, E_ldI_b, E_ldR_a, E_ldR_b, E_lsh_0, E_new_0, E_rZ_0, E_sld_0, E_slen_0, E_stI_0, E_stR_0, E_sw_0, Nat.reduceDiv, am_cc, am_nl, am_ok, am_pop, am_rt, am_set, am_v, am_vo, am_vs, cC_11, cC_12, gI_sO, gL_sO, gN_sO, gQ_sO, nN_10, nN_3, kL_law, kL_law_13, kL_law_16]
  exact l_next (hX σ2 _ _ hI2 (by omega) (by omega))
theorem law_load {L k a b : Nat} {σ : HS} {Q : PO} (hk : k < 512) (hL : 6 * k + 6 ≤ L) (hL2 : L ≤ 3072) (hI : Inv k σ) (ha : a + 1 ≤ 600000) (hb : b + 18 ≤ 7302250) (hX : ∀ σ' a' b', Inv (k + 1) σ' → a' ≤ a + 1 → b' ≤ b + 18 → am_T (KL S1 L) MR Q 18 (lsL (k + 1)) [] σ' a' b') : am_T (KL S1 L) MR Q 998 (lsL k) [] σ a b := by
  have ha2 : a ≤ 600000 := by omega
  have hb2 : b ≤ 7302250 := by omega
  rw [h_law L 1]
  simp only [am_run_z, am_run_s, bt, lf, am_in, am_ar, am_fit, am_ld, am_ct, Nat.reduceLT, Nat.reduceEqDiff, reduceIte, Nat.reduceAdd, Nat.reduceLeDiff, Nat.reduceSub, Bool.false_eq_true, if_true, if_false, ite_true, ite_false, List.length_cons, List.length_nil, Nat.zero_add, Nat.add_zero, and_true, true_and, true_or, or_true, and_self, Nat.le_refl, Nat.lt_irrefl, gI_sI, gL_sL, gQ_sQ, gI_sJ, gI_sL, gI_sQ, gL_sI, gL_sQ, gL_sJ, gQ_sI, gQ_sL, gQ_sJ, gN_sI, gN_sL, gN_sQ, gN_sJ, E_b2_0, E_cI_a, E_cI_b, E_cV_a, E_cV_b, E_c_0, E_dup_0, E_dup_1, E_i2l_0, E_inc_a, E_inc_b, E_je_0, E_jg_0, E_jmp_0, E_jz_0, E_kk, E_l2_0, E_lcmp_0, E_ldI_a, E_ldI_b, E_ldR_a, E_ldR_b, E_lsh_0, E_new_0, E_rZ_0, E_sld_0, E_slen_0, E_stI_0, E_stR_0, E_sw_0, Nat.reduceDiv, am_cc, am_nl, am_ok, am_pop, am_rt, am_set, am_v, am_vo, am_vs, cC_11, cC_12, gI_sO, gL_sO, gN_sO, gQ_sO, nN_10, nN_3, kL_law, kL_law_13, ha2, hb2, true_or]
  refine MM_mo _ _ _ _ _ ?_ (api_load k σ hk hI)
  intro r σ1 h ro
  simp only [am_run_z, E_kk, Nat.add_zero]
  have hct := ct_rt r
  generalize hst : am_rt r [] = st0 at hct ⊢
  have hc8 : am_ct st0 ≤ 8 := by omega
  have hc8_1 : 1 + am_ct st0 ≤ 8 := by omega
  have hc8_2 : 2 + am_ct st0 ≤ 8 := by omega
  have hc8_3 : 3 + am_ct st0 ≤ 8 := by omega
  have hc8_4 : 4 + am_ct st0 ≤ 8 := by omega
  have hc8_5 : 5 + am_ct st0 ≤ 8 := by omega
  have hc8_6 : 6 + am_ct st0 ≤ 8 := by omega
  have ha3 : a + 0 ≤ 600000 := by omega
  have hb3 : b + 0 ≤ 7302250 := by omega
  rw [h_law L 3]
  simp only [am_run_z, am_run_s, bt, lf, am_in, am_ar, am_fit, am_ld, am_ct, Nat.reduceLT, Nat.reduceEqDiff, reduceIte, Nat.reduceAdd, Nat.reduceLeDiff, Nat.reduceSub, Bool.false_eq_true, if_true, if_false, ite_true, ite_false, List.length_cons, List.length_nil, Nat.zero_add, Nat.add_zero, and_true, true_and, true_or, or_true, and_self, Nat.le_refl, Nat.lt_irrefl, gI_sI, gL_sL, gQ_sQ, gI_sJ, gI_sL, gI_sQ, gL_sI, gL_sQ, gL_sJ, gQ_sI, gQ_sL, gQ_sJ, gN_sI, gN_sL, gN_sQ, gN_sJ, E_b2_0, E_cI_a, E_cI_b, E_cV_a, E_cV_b, E_c_0, E_dup_0, E_dup_1, E_i2l_0, E_inc_a, E_inc_b, E_je_0, E_jg_0, E_jmp_0, E_jz_0, E_kk, E_l2_0, E_lcmp_0, E_ldI_a, E_ldI_b, E_ldR_a, E_ldR_b, E_lsh_0, E_new_0, E_rZ_0, E_sld_0, E_slen_0, E_stI_0, E_stR_0, E_sw_0, Nat.reduceDiv, am_cc, am_nl, am_ok, am_pop, am_rt, am_set, am_v, am_vo, am_vs, cC_11, cC_12, gI_sO, gL_sO, gN_sO, gQ_sO, nN_10, nN_3, kL_law, kL_law_13, kL_law_16, hc8, hc8_1, hc8_2, hc8_3, hc8_4, hc8_5, hc8_6, E_kk, ha3, hb3, ha2, hb2, true_or]
  refine MM_mo _ _ _ _ _ ?_ h
  intro r2 σ2 hh ro2
  obtain ⟨⟨v, e1', e2'⟩, hI2⟩ := hh
  subst e1'
  subst e2'
  subst hst
  have lz : lg_cmp v v = 0 := by rw [lc_zero]
  simp only [am_run_z, E_kk, am_rt, am_run_s, bt, lf, am_in, am_ar, am_fit, am_ld, am_ct, Nat.reduceLT, Nat.reduceEqDiff, reduceIte, Nat.reduceAdd, Nat.reduceLeDiff, Nat.reduceSub, Bool.false_eq_true, if_true, if_false, ite_true, ite_false, List.length_cons, List.length_nil, Nat.zero_add, Nat.add_zero, and_true, true_and, true_or, or_true, and_self, Nat.le_refl, Nat.lt_irrefl, gI_sI, gL_sL, gQ_sQ, gI_sJ, gI_sL, gI_sQ, gL_sI, gL_sQ, gL_sJ, gQ_sI, gQ_sL, gQ_sJ, gN_sI, gN_sL, gN_sQ, gN_sJ, E_b2_0, E_cI_a, E_cI_b, E_cV_a, E_cV_b, E_c_0, E_dup_0, E_dup_1, E_i2l_0, E_inc_a, E_inc_b, E_je_0, E_jg_0, E_jmp_0, E_jz_0, E_kk, E_l2_0, E_lcmp_0, E_ldI_a, E_ldI_b, E_ldR_a, E_ldR_b, E_lsh_0, E_new_0, E_rZ_0, E_sld_0, E_slen_0, E_stI_0, E_stR_0, E_sw_0, Nat.reduceDiv, am_cc, am_nl, am_ok, am_pop, am_rt, am_set, am_v, am_vo, am_vs, cC_11, cC_12, gI_sO, gL_sO, gN_sO, gQ_sO, nN_10, nN_3, kL_law, kL_law_13, kL_law_16, lz]
  exact l_next (hX σ2 _ _ hI2 (by omega) (by omega))
theorem law_order {L k a b : Nat} {σ : HS} {Q : PO} (hk : k < 512) (hL : 6 * k + 6 ≤ L) (hL2 : L ≤ 3072) (hI : Inv k σ) (ha : a + 1 ≤ 600000) (hb : b + 18 ≤ 7302250) (hX : ∀ σ' a' b', Inv (k + 1) σ' → a' ≤ a + 1 → b' ≤ b + 18 → am_T (KL S1 L) MR Q 18 (lsL (k + 1)) [] σ' a' b') : am_T (KL S1 L) MR Q 1012 (lsL k) [] σ a b := by
  have ha2 : a ≤ 600000 := by omega
  have hb2 : b ≤ 7302250 := by omega
  rw [h_law L 1]
  simp only [am_run_z, am_run_s, bt, lf, am_in, am_ar, am_fit, am_ld, am_ct, Nat.reduceLT, Nat.reduceEqDiff, reduceIte, Nat.reduceAdd, Nat.reduceLeDiff, Nat.reduceSub, Bool.false_eq_true, if_true, if_false, ite_true, ite_false, List.length_cons, List.length_nil, Nat.zero_add, Nat.add_zero, and_true, true_and, true_or, or_true, and_self, Nat.le_refl, Nat.lt_irrefl, gI_sI, gL_sL, gQ_sQ, gI_sJ, gI_sL, gI_sQ, gL_sI, gL_sQ, gL_sJ, gQ_sI, gQ_sL, gQ_sJ, gN_sI, gN_sL, gN_sQ, gN_sJ, E_b2_0, E_cI_a, E_cI_b, E_cV_a, E_cV_b, E_c_0, E_dup_0, E_dup_1, E_i2l_0, E_inc_a, E_inc_b, E_je_0, E_jg_0, E_jmp_0, E_jz_0, E_kk, E_l2_0, E_lcmp_0, E_ldI_a, E_ldI_b, E_ldR_a, E_ldR_b, E_lsh_0, E_new_0, E_rZ_0, E_sld_0, E_slen_0, E_stI_0, E_stR_0, E_sw_0, Nat.reduceDiv, am_cc, am_nl, am_ok, am_pop, am_rt, am_set, am_v, am_vo, am_vs, cC_11, cC_12, gI_sO, gL_sO, gN_sO, gQ_sO, nN_10, nN_3, kL_law, kL_law_13, ha2, hb2, true_or]
  refine MM_mo _ _ _ _ _ ?_ (api_order k σ hk hI)
  intro r σ1 h ro
  simp only [am_run_z, E_kk, Nat.add_zero]
  have hct := ct_rt r
  generalize hst : am_rt r [] = st0 at hct ⊢
  have hc8 : am_ct st0 ≤ 8 := by omega
  have hc8_1 : 1 + am_ct st0 ≤ 8 := by omega
  have hc8_2 : 2 + am_ct st0 ≤ 8 := by omega
  have hc8_3 : 3 + am_ct st0 ≤ 8 := by omega
  have hc8_4 : 4 + am_ct st0 ≤ 8 := by omega
  have hc8_5 : 5 + am_ct st0 ≤ 8 := by omega
  have hc8_6 : 6 + am_ct st0 ≤ 8 := by omega
  have ha3 : a + 0 ≤ 600000 := by omega
  have hb3 : b + 0 ≤ 7302250 := by omega
  rw [h_law L 2]
  simp only [am_run_z, am_run_s, bt, lf, am_in, am_ar, am_fit, am_ld, am_ct, Nat.reduceLT, Nat.reduceEqDiff, reduceIte, Nat.reduceAdd, Nat.reduceLeDiff, Nat.reduceSub, Bool.false_eq_true, if_true, if_false, ite_true, ite_false, List.length_cons, List.length_nil, Nat.zero_add, Nat.add_zero, and_true, true_and, true_or, or_true, and_self, Nat.le_refl, Nat.lt_irrefl, gI_sI, gL_sL, gQ_sQ, gI_sJ, gI_sL, gI_sQ, gL_sI, gL_sQ, gL_sJ, gQ_sI, gQ_sL, gQ_sJ, gN_sI, gN_sL, gN_sQ, gN_sJ, E_b2_0, E_cI_a, E_cI_b, E_cV_a, E_cV_b, E_c_0, E_dup_0, E_dup_1, E_i2l_0, E_inc_a, E_inc_b, E_je_0, E_jg_0, E_jmp_0, E_jz_0, E_kk, E_l2_0, E_lcmp_0, E_ldI_a, E_ldI_b, E_ldR_a, E_ldR_b, E_lsh_0, E_new_0, E_rZ_0, E_sld_0, E_slen_0, E_stI_0, E_stR_0, E_sw_0, Nat.reduceDiv, am_cc, am_nl, am_ok, am_pop, am_rt, am_set, am_v, am_vo, am_vs, cC_11, cC_12, gI_sO, gL_sO, gN_sO, gQ_sO, nN_10, nN_3, kL_law, kL_law_13, kL_law_16, hc8, hc8_1, hc8_2, hc8_3, hc8_4, hc8_5, hc8_6, E_kk, ha3, hb3, ha2, hb2, true_or]
  refine MM_mo _ _ _ _ _ ?_ h
  intro r2 σ2 hh ro2
  obtain ⟨⟨v, e1', e2'⟩, hI2⟩ := hh
  subst e1'
  subst e2'
  subst hst
  simp only [am_run_z, E_kk, am_rt, am_run_s, bt, lf, am_in, am_ar, am_fit, am_ld, am_ct, Nat.reduceLT, Nat.reduceEqDiff, reduceIte, Nat.reduceAdd, Nat.reduceLeDiff, Nat.reduceSub, Bool.false_eq_true, if_true, if_false, ite_true, ite_false, List.length_cons, List.length_nil, Nat.zero_add, Nat.add_zero, and_true, true_and, true_or, or_true, and_self, Nat.le_refl, Nat.lt_irrefl, gI_sI, gL_sL, gQ_sQ, gI_sJ, gI_sL, gI_sQ, gL_sI, gL_sQ, gL_sJ, gQ_sI, gQ_sL, gQ_sJ, gN_sI, gN_sL, gN_sQ, gN_sJ, E_b2_0, E_cI_a, E_cI_b, E_cV_a, E_cV_b, E_c_0, E_dup_0, E_dup_1, E_i2l_0, E_inc_a, E_inc_b, E_je_0, E_jg_0, E_jmp_0, E_jz_0, E_kk, E_l2_0, E_lcmp_0, E_ldI_a, E_ldI_b, E_ldR_a, E_ldR_b, E_lsh_0, E_new_0, E_rZ_0, E_sld_0, E_slen_0, E_stI_0, E_stR_0, E_sw_0, Nat.reduceDiv, am_cc, am_nl, am_ok, am_pop, am_rt, am_set, am_v, am_vo, am_vs, cC_11, cC_12, gI_sO, gL_sO, gN_sO, gQ_sO, nN_10, nN_3, kL_law, kL_law_13, kL_law_16]
  exact l_next (hX σ2 _ _ hI2 (by omega) (by omega))
theorem law_place {L k a b : Nat} {σ : HS} {Q : PO} (hk : k < 512) (hL : 6 * k + 6 ≤ L) (hL2 : L ≤ 3072) (hI : Inv k σ) (ha : a + 1 ≤ 600000) (hb : b + 18 ≤ 7302250) (hX : ∀ σ' a' b', Inv (k + 1) σ' → a' ≤ a + 1 → b' ≤ b + 18 → am_T (KL S1 L) MR Q 18 (lsL (k + 1)) [] σ' a' b') : am_T (KL S1 L) MR Q 1025 (lsL k) [] σ a b := by
  have e1 := nI_6 k 1 1 (by decide)
  have v1 : vp_in (nI (6 * k + 1)) L := vp_in_nI (by omega) (by omega)
  have c1 : (nI (6 * k + 1)).toNatClampNeg = 6 * k + 1 := nI_clamp (by omega)
  have e2 := nI_6 k 2 2 (by decide)
  have v2 : vp_in (nI (6 * k + 2)) L := vp_in_nI (by omega) (by omega)
  have c2 : (nI (6 * k + 2)).toNatClampNeg = 6 * k + 2 := nI_clamp (by omega)
  have e3 := nI_6 k 3 3 (by decide)
  have v3 : vp_in (nI (6 * k + 3)) L := vp_in_nI (by omega) (by omega)
  have c3 : (nI (6 * k + 3)).toNatClampNeg = 6 * k + 3 := nI_clamp (by omega)
  have e4 := nI_6 k 4 4 (by decide)
  have v4 : vp_in (nI (6 * k + 4)) L := vp_in_nI (by omega) (by omega)
  have c4 : (nI (6 * k + 4)).toNatClampNeg = 6 * k + 4 := nI_clamp (by omega)
  have e5 := nI_6 k 5 5 (by decide)
  have v5 : vp_in (nI (6 * k + 5)) L := vp_in_nI (by omega) (by omega)
  have c5 : (nI (6 * k + 5)).toNatClampNeg = 6 * k + 5 := nI_clamp (by omega)
  have ha2 : a ≤ 600000 := by omega
  have hb2 : b ≤ 7302250 := by omega
  rw [h_law L 6]
  simp only [am_run_z, am_run_s, bt, lf, am_in, am_ar, am_fit, am_ld, am_ct, Nat.reduceLT, Nat.reduceEqDiff, reduceIte, Nat.reduceAdd, Nat.reduceLeDiff, Nat.reduceSub, Bool.false_eq_true, if_true, if_false, ite_true, ite_false, List.length_cons, List.length_nil, Nat.zero_add, Nat.add_zero, and_true, true_and, true_or, or_true, and_self, Nat.le_refl, Nat.lt_irrefl, gI_sI, gL_sL, gQ_sQ, gI_sJ, gI_sL, gI_sQ, gL_sI, gL_sQ, gL_sJ, gQ_sI, gQ_sL, gQ_sJ, gN_sI, gN_sL, gN_sQ, gN_sJ, E_b2_0, E_cI_a, E_cI_b, E_cV_a, E_cV_b, E_c_0, E_dup_0, E_dup_1, E_i2l_0, E_inc_a, E_inc_b, E_je_0, E_jg_0, E_jmp_0, E_jz_0, E_kk, E_l2_0, E_lcmp_0, E_ldI_a, E_ldI_b, E_ldR_a, E_ldR_b, E_lsh_0, E_new_0, E_rZ_0, E_sld_0, E_slen_0, E_stI_0, E_stR_0, E_sw_0, Nat.reduceDiv, am_cc, am_nl, am_ok, am_pop, am_rt, am_set, am_v, am_vo, am_vs, cC_11, cC_12, gI_sO, gL_sO, gN_sO, gQ_sO, nN_10, nN_3, kL_law, kL_law_13, e1, v1, c1, e2, v2, c2, e3, v3, c3, e4, v4, c4, e5, v5, c5, ha2, hb2, true_or]
  refine MM_mo _ _ _ _ _ ?_ (api_place _ k σ hk hI)
  intro r σ1 h ro
  simp only [am_run_z, E_kk, Nat.add_zero]
  have hct := ct_rt r
  generalize hst : am_rt r [] = st0 at hct ⊢
  have hc8 : am_ct st0 ≤ 8 := by omega
  have hc8_1 : 1 + am_ct st0 ≤ 8 := by omega
  have hc8_2 : 2 + am_ct st0 ≤ 8 := by omega
  have hc8_3 : 3 + am_ct st0 ≤ 8 := by omega
  have hc8_4 : 4 + am_ct st0 ≤ 8 := by omega
  have hc8_5 : 5 + am_ct st0 ≤ 8 := by omega
  have hc8_6 : 6 + am_ct st0 ≤ 8 := by omega
  have sc : ∀ j, gI σ1 20 j = gI σ 20 j := ro.1
  have ha3 : a + 0 ≤ 600000 := by omega
  have hb3 : b + 0 ≤ 7302250 := by omega
  rw [h_law L 7]
  simp only [am_run_z, am_run_s, bt, lf, am_in, am_ar, am_fit, am_ld, am_ct, Nat.reduceLT, Nat.reduceEqDiff, reduceIte, Nat.reduceAdd, Nat.reduceLeDiff, Nat.reduceSub, Bool.false_eq_true, if_true, if_false, ite_true, ite_false, List.length_cons, List.length_nil, Nat.zero_add, Nat.add_zero, and_true, true_and, true_or, or_true, and_self, Nat.le_refl, Nat.lt_irrefl, gI_sI, gL_sL, gQ_sQ, gI_sJ, gI_sL, gI_sQ, gL_sI, gL_sQ, gL_sJ, gQ_sI, gQ_sL, gQ_sJ, gN_sI, gN_sL, gN_sQ, gN_sJ, E_b2_0, E_cI_a, E_cI_b, E_cV_a, E_cV_b, E_c_0, E_dup_0, E_dup_1, E_i2l_0, E_inc_a, E_inc_b, E_je_0, E_jg_0, E_jmp_0, E_jz_0, E_kk, E_l2_0, E_lcmp_0, E_ldI_a, E_ldI_b, E_ldR_a, E_ldR_b, E_lsh_0, E_new_0, E_rZ_0, E_sld_0, E_slen_0, E_stI_0, E_stR_0, E_sw_0, Nat.reduceDiv, am_cc, am_nl, am_ok, am_pop, am_rt, am_set, am_v, am_vo, am_vs, cC_11, cC_12, gI_sO, gL_sO, gN_sO, gQ_sO, nN_10, nN_3, kL_law, kL_law_13, kL_law_16, e1, v1, c1, e2, v2, c2, e3, v3, c3, e4, v4, c4, e5, v5, c5, hc8, hc8_1, hc8_2, hc8_3, hc8_4, hc8_5, hc8_6, sc, ha3, hb3, ha2, hb2, true_or]
  refine MM_mo _ _ _ _ _ ?_ h
  intro r2 σ2 hh ro2
  obtain ⟨⟨v, e1', e2'⟩, hI2⟩ := hh
  subst e1'
  subst e2'
  subst hst
  simp only [am_run_z, E_kk, am_rt, am_run_s, bt, lf, am_in, am_ar, am_fit, am_ld, am_ct, Nat.reduceLT, Nat.reduceEqDiff, reduceIte, Nat.reduceAdd, Nat.reduceLeDiff, Nat.reduceSub, Bool.false_eq_true, if_true, if_false, ite_true, ite_false, List.length_cons, List.length_nil, Nat.zero_add, Nat.add_zero, and_true, true_and, true_or, or_true, and_self, Nat.le_refl, Nat.lt_irrefl, gI_sI, gL_sL, gQ_sQ, gI_sJ, gI_sL, gI_sQ, gL_sI, gL_sQ, gL_sJ, gQ_sI, gQ_sL, gQ_sJ, gN_sI, gN_sL, gN_sQ, gN_sJ, E_b2_0, E_cI_a, E_cI_b, E_cV_a, E_cV_b, E_c_0, E_dup_0, E_dup_1, E_i2l_0, E_inc_a, E_inc_b, E_je_0, E_jg_0, E_jmp_0, E_jz_0, E_kk, E_l2_0, E_lcmp_0, E_ldI_a, E_ldI_b, E_ldR_a, E_ldR_b, E_lsh_0, E_new_0, E_rZ_0, E_sld_0, E_slen_0, E_stI_0, E_stR_0, E_sw_0, Nat.reduceDiv, am_cc, am_nl, am_ok, am_pop, am_rt, am_set, am_v, am_vo, am_vs, cC_11, cC_12, gI_sO, gL_sO, gN_sO, gQ_sO, nN_10, nN_3, kL_law, kL_law_13, kL_law_16]
  exact l_next (hX σ2 _ _ hI2 (by omega) (by omega))
theorem law_give {L k a b : Nat} {σ : HS} {Q : PO} (hk : k < 512) (hL : 6 * k + 6 ≤ L) (hL2 : L ≤ 3072) (hI : Inv k σ) (ha : a + 1 ≤ 600000) (hb : b + 18 ≤ 7302250) (hX : ∀ σ' a' b', Inv (k + 1) σ' → a' ≤ a + 1 → b' ≤ b + 18 → am_T (KL S1 L) MR Q 18 (lsL (k + 1)) [] σ' a' b') : am_T (KL S1 L) MR Q 1048 (lsL k) [] σ a b := by
  have ha2 : a ≤ 600000 := by omega
  have hb2 : b ≤ 7302250 := by omega
  rw [h_law L 1]
  simp only [am_run_z, am_run_s, bt, lf, am_in, am_ar, am_fit, am_ld, am_ct, Nat.reduceLT, Nat.reduceEqDiff, reduceIte, Nat.reduceAdd, Nat.reduceLeDiff, Nat.reduceSub, Bool.false_eq_true, if_true, if_false, ite_true, ite_false, List.length_cons, List.length_nil, Nat.zero_add, Nat.add_zero, and_true, true_and, true_or, or_true, and_self, Nat.le_refl, Nat.lt_irrefl, gI_sI, gL_sL, gQ_sQ, gI_sJ, gI_sL, gI_sQ, gL_sI, gL_sQ, gL_sJ, gQ_sI, gQ_sL, gQ_sJ, gN_sI, gN_sL, gN_sQ, gN_sJ, E_b2_0, E_cI_a, E_cI_b, E_cV_a, E_cV_b, E_c_0, E_dup_0, E_dup_1, E_i2l_0, E_inc_a, E_inc_b, E_je_0, E_jg_0, E_jmp_0, E_jz_0, E_kk, E_l2_0, E_lcmp_0, E_ldI_a, E_ldI_b, E_ldR_a, E_ldR_b, E_lsh_0, E_new_0, E_rZ_0, E_sld_0, E_slen_0, E_stI_0, E_stR_0, E_sw_0, Nat.reduceDiv, am_cc, am_nl, am_ok, am_pop, am_rt, am_set, am_v, am_vo, am_vs, cC_11, cC_12, gI_sO, gL_sO, gN_sO, gQ_sO, nN_10, nN_3, kL_law, kL_law_14, ha2, hb2, true_or]
  refine MM_mo _ _ _ _ _ ?_ (api_give k σ hk hI)
  intro r σ1 h ro
  simp only [am_run_z, E_kk, Nat.add_zero]
  have hct := ct_rt r
  generalize hst : am_rt r [] = st0 at hct ⊢
  have hc8 : am_ct st0 ≤ 8 := by omega
  have hc8_1 : 1 + am_ct st0 ≤ 8 := by omega
  have hc8_2 : 2 + am_ct st0 ≤ 8 := by omega
  have hc8_3 : 3 + am_ct st0 ≤ 8 := by omega
  have hc8_4 : 4 + am_ct st0 ≤ 8 := by omega
  have hc8_5 : 5 + am_ct st0 ≤ 8 := by omega
  have hc8_6 : 6 + am_ct st0 ≤ 8 := by omega
  have ha3 : a + 0 ≤ 600000 := by omega
  have hb3 : b + 0 ≤ 7302250 := by omega
  rw [h_law L 2]
  simp only [am_run_z, am_run_s, bt, lf, am_in, am_ar, am_fit, am_ld, am_ct, Nat.reduceLT, Nat.reduceEqDiff, reduceIte, Nat.reduceAdd, Nat.reduceLeDiff, Nat.reduceSub, Bool.false_eq_true, if_true, if_false, ite_true, ite_false, List.length_cons, List.length_nil, Nat.zero_add, Nat.add_zero, and_true, true_and, true_or, or_true, and_self, Nat.le_refl, Nat.lt_irrefl, gI_sI, gL_sL, gQ_sQ, gI_sJ, gI_sL, gI_sQ, gL_sI, gL_sQ, gL_sJ, gQ_sI, gQ_sL, gQ_sJ, gN_sI, gN_sL, gN_sQ, gN_sJ, E_b2_0, E_cI_a, E_cI_b, E_cV_a, E_cV_b, E_c_0, E_dup_0, E_dup_1, E_i2l_0, E_inc_a, E_inc_b, E_je_0, E_jg_0, E_jmp_0, E_jz_0, E_kk, E_l2_0, E_lcmp_0, E_ldI_a, E_ldI_b, E_ldR_a, E_ldR_b, E_lsh_0, E_new_0, E_rZ_0, E_sld_0, E_slen_0, E_stI_0, E_stR_0, E_sw_0, Nat.reduceDiv, am_cc, am_nl, am_ok, am_pop, am_rt, am_set, am_v, am_vo, am_vs, cC_11, cC_12, gI_sO, gL_sO, gN_sO, gQ_sO, nN_10, nN_3, kL_law, kL_law_14, kL_law_16, hc8, hc8_1, hc8_2, hc8_3, hc8_4, hc8_5, hc8_6, E_kk, ha3, hb3, ha2, hb2, true_or]
  refine MM_mo _ _ _ _ _ ?_ h
  intro r2 σ2 hh ro2
  obtain ⟨⟨v, e1', e2'⟩, hI2⟩ := hh
  subst e1'
  subst e2'
  subst hst
  simp only [am_run_z, E_kk, am_rt, am_run_s, bt, lf, am_in, am_ar, am_fit, am_ld, am_ct, Nat.reduceLT, Nat.reduceEqDiff, reduceIte, Nat.reduceAdd, Nat.reduceLeDiff, Nat.reduceSub, Bool.false_eq_true, if_true, if_false, ite_true, ite_false, List.length_cons, List.length_nil, Nat.zero_add, Nat.add_zero, and_true, true_and, true_or, or_true, and_self, Nat.le_refl, Nat.lt_irrefl, gI_sI, gL_sL, gQ_sQ, gI_sJ, gI_sL, gI_sQ, gL_sI, gL_sQ, gL_sJ, gQ_sI, gQ_sL, gQ_sJ, gN_sI, gN_sL, gN_sQ, gN_sJ, E_b2_0, E_cI_a, E_cI_b, E_cV_a, E_cV_b, E_c_0, E_dup_0, E_dup_1, E_i2l_0, E_inc_a, E_inc_b, E_je_0, E_jg_0, E_jmp_0, E_jz_0, E_kk, E_l2_0, E_lcmp_0, E_ldI_a, E_ldI_b, E_ldR_a, E_ldR_b, E_lsh_0, E_new_0, E_rZ_0, E_sld_0, E_slen_0, E_stI_0, E_stR_0, E_sw_0, Nat.reduceDiv, am_cc, am_nl, am_ok, am_pop, am_rt, am_set, am_v, am_vo, am_vs, cC_11, cC_12, gI_sO, gL_sO, gN_sO, gQ_sO, nN_10, nN_3, kL_law, kL_law_14, kL_law_16]
  exact l_next (hX σ2 _ _ hI2 (by omega) (by omega))
theorem law_put {L k a b : Nat} {σ : HS} {Q : PO} (hk : k < 512) (hL : 6 * k + 6 ≤ L) (hL2 : L ≤ 3072) (hI : Inv k σ) (ha : a + 1 ≤ 600000) (hb : b + 18 ≤ 7302250) (hX : ∀ σ' a' b', Inv (k + 1) σ' → a' ≤ a + 1 → b' ≤ b + 18 → am_T (KL S1 L) MR Q 18 (lsL (k + 1)) [] σ' a' b') : am_T (KL S1 L) MR Q 1061 (lsL k) [] σ a b := by
  have e1 := nI_6 k 1 1 (by decide)
  have v1 : vp_in (nI (6 * k + 1)) L := vp_in_nI (by omega) (by omega)
  have c1 : (nI (6 * k + 1)).toNatClampNeg = 6 * k + 1 := nI_clamp (by omega)
  have e2 := nI_6 k 2 2 (by decide)
  have v2 : vp_in (nI (6 * k + 2)) L := vp_in_nI (by omega) (by omega)
  have c2 : (nI (6 * k + 2)).toNatClampNeg = 6 * k + 2 := nI_clamp (by omega)
  have e3 := nI_6 k 3 3 (by decide)
  have v3 : vp_in (nI (6 * k + 3)) L := vp_in_nI (by omega) (by omega)
  have c3 : (nI (6 * k + 3)).toNatClampNeg = 6 * k + 3 := nI_clamp (by omega)
  have e4 := nI_6 k 4 4 (by decide)
  have v4 : vp_in (nI (6 * k + 4)) L := vp_in_nI (by omega) (by omega)
  have c4 : (nI (6 * k + 4)).toNatClampNeg = 6 * k + 4 := nI_clamp (by omega)
  have e5 := nI_6 k 5 5 (by decide)
  have v5 : vp_in (nI (6 * k + 5)) L := vp_in_nI (by omega) (by omega)
  have c5 : (nI (6 * k + 5)).toNatClampNeg = 6 * k + 5 := nI_clamp (by omega)
  have ha2 : a ≤ 600000 := by omega
  have hb2 : b ≤ 7302250 := by omega
  rw [h_law L 6]
  simp only [am_run_z, am_run_s, bt, lf, am_in, am_ar, am_fit, am_ld, am_ct, Nat.reduceLT, Nat.reduceEqDiff, reduceIte, Nat.reduceAdd, Nat.reduceLeDiff, Nat.reduceSub, Bool.false_eq_true, if_true, if_false, ite_true, ite_false, List.length_cons, List.length_nil, Nat.zero_add, Nat.add_zero, and_true, true_and, true_or, or_true, and_self, Nat.le_refl, Nat.lt_irrefl, gI_sI, gL_sL, gQ_sQ, gI_sJ, gI_sL, gI_sQ, gL_sI, gL_sQ, gL_sJ, gQ_sI, gQ_sL, gQ_sJ, gN_sI, gN_sL, gN_sQ, gN_sJ, E_b2_0, E_cI_a, E_cI_b, E_cV_a, E_cV_b, E_c_0, E_dup_0, E_dup_1, E_i2l_0, E_inc_a, E_inc_b, E_je_0, E_jg_0, E_jmp_0, E_jz_0, E_kk, E_l2_0, E_lcmp_0, E_ldI_a, E_ldI_b, E_ldR_a, E_ldR_b, E_lsh_0, E_new_0, E_rZ_0, E_sld_0, E_slen_0, E_stI_0, E_stR_0, E_sw_0, Nat.reduceDiv, am_cc, am_nl, am_ok, am_pop, am_rt, am_set, am_v, am_vo, am_vs, cC_11, cC_12, gI_sO, gL_sO, gN_sO, gQ_sO, nN_10, nN_3, kL_law, kL_law_14, e1, v1, c1, e2, v2, c2, e3, v3, c3, e4, v4, c4, e5, v5, c5, ha2, hb2, true_or]
  refine MM_mo _ _ _ _ _ ?_ (api_put _ k σ hk hI)
  intro r σ1 h ro
  simp only [am_run_z, E_kk, Nat.add_zero]
  have hct := ct_rt r
  generalize hst : am_rt r [] = st0 at hct ⊢
  have hc8 : am_ct st0 ≤ 8 := by omega
  have hc8_1 : 1 + am_ct st0 ≤ 8 := by omega
  have hc8_2 : 2 + am_ct st0 ≤ 8 := by omega
  have hc8_3 : 3 + am_ct st0 ≤ 8 := by omega
  have hc8_4 : 4 + am_ct st0 ≤ 8 := by omega
  have hc8_5 : 5 + am_ct st0 ≤ 8 := by omega
  have hc8_6 : 6 + am_ct st0 ≤ 8 := by omega
  have sc : ∀ j, gI σ1 20 j = gI σ 20 j := ro.1
  have ha3 : a + 0 ≤ 600000 := by omega
  have hb3 : b + 0 ≤ 7302250 := by omega
  rw [h_law L 7]
  simp only [am_run_z, am_run_s, bt, lf, am_in, am_ar, am_fit, am_ld, am_ct, Nat.reduceLT, Nat.reduceEqDiff, reduceIte, Nat.reduceAdd, Nat.reduceLeDiff, Nat.reduceSub, Bool.false_eq_true, if_true, if_false, ite_true, ite_false, List.length_cons, List.length_nil, Nat.zero_add, Nat.add_zero, and_true, true_and, true_or, or_true, and_self, Nat.le_refl, Nat.lt_irrefl, gI_sI, gL_sL, gQ_sQ, gI_sJ, gI_sL, gI_sQ, gL_sI, gL_sQ, gL_sJ, gQ_sI, gQ_sL, gQ_sJ, gN_sI, gN_sL, gN_sQ, gN_sJ, E_b2_0, E_cI_a, E_cI_b, E_cV_a, E_cV_b, E_c_0, E_dup_0, E_dup_1, E_i2l_0, E_inc_a, E_inc_b, E_je_0, E_jg_0, E_jmp_0, E_jz_0, E_kk, E_l2_0, E_lcmp_0, E_ldI_a, E_ldI_b, E_ldR_a, E_ldR_b, E_lsh_0, E_new_0, E_rZ_0, E_sld_0, E_slen_0, E_stI_0, E_stR_0, E_sw_0, Nat.reduceDiv, am_cc, am_nl, am_ok, am_pop, am_rt, am_set, am_v, am_vo, am_vs, cC_11, cC_12, gI_sO, gL_sO, gN_sO, gQ_sO, nN_10, nN_3, kL_law, kL_law_14, kL_law_16, e1, v1, c1, e2, v2, c2, e3, v3, c3, e4, v4, c4, e5, v5, c5, hc8, hc8_1, hc8_2, hc8_3, hc8_4, hc8_5, hc8_6, sc, ha3, hb3, ha2, hb2, true_or]
  refine MM_mo _ _ _ _ _ ?_ h
  intro r2 σ2 hh ro2
  obtain ⟨⟨v, e1', e2'⟩, hI2⟩ := hh
  subst e1'
  subst e2'
  subst hst
  simp only [am_run_z, E_kk, am_rt, am_run_s, bt, lf, am_in, am_ar, am_fit, am_ld, am_ct, Nat.reduceLT, Nat.reduceEqDiff, reduceIte, Nat.reduceAdd, Nat.reduceLeDiff, Nat.reduceSub, Bool.false_eq_true, if_true, if_false, ite_true, ite_false, List.length_cons, List.length_nil, Nat.zero_add, Nat.add_zero, and_true, true_and, true_or, or_true, and_self, Nat.le_refl, Nat.lt_irrefl, gI_sI, gL_sL, gQ_sQ, gI_sJ, gI_sL, gI_sQ, gL_sI, gL_sQ, gL_sJ, gQ_sI, gQ_sL, gQ_sJ, gN_sI, gN_sL, gN_sQ, gN_sJ, E_b2_0, E_cI_a, E_cI_b, E_cV_a, E_cV_b, E_c_0, E_dup_0, E_dup_1, E_i2l_0, E_inc_a, E_inc_b, E_je_0, E_jg_0, E_jmp_0, E_jz_0, E_kk, E_l2_0, E_lcmp_0, E_ldI_a, E_ldI_b, E_ldR_a, E_ldR_b, E_lsh_0, E_new_0, E_rZ_0, E_sld_0, E_slen_0, E_stI_0, E_stR_0, E_sw_0, Nat.reduceDiv, am_cc, am_nl, am_ok, am_pop, am_rt, am_set, am_v, am_vo, am_vs, cC_11, cC_12, gI_sO, gL_sO, gN_sO, gQ_sO, nN_10, nN_3, kL_law, kL_law_14, kL_law_16]
  exact l_next (hX σ2 _ _ hI2 (by omega) (by omega))
theorem law_tear {L k a b : Nat} {σ : HS} {Q : PO} (hk : k < 512) (hL : 6 * k + 6 ≤ L) (hL2 : L ≤ 3072) (hI : Inv k σ) (ha : a + 1 ≤ 600000) (hb : b + 18 ≤ 7302250) (hX : ∀ σ' a' b', Inv (k + 1) σ' → a' ≤ a + 1 → b' ≤ b + 18 → am_T (KL S1 L) MR Q 18 (lsL (k + 1)) [] σ' a' b') : am_T (KL S1 L) MR Q 1084 (lsL k) [] σ a b := by
  have ha2 : a ≤ 600000 := by omega
  have hb2 : b ≤ 7302250 := by omega
  rw [h_law L 1]
  simp only [am_run_z, am_run_s, bt, lf, am_in, am_ar, am_fit, am_ld, am_ct, Nat.reduceLT, Nat.reduceEqDiff, reduceIte, Nat.reduceAdd, Nat.reduceLeDiff, Nat.reduceSub, Bool.false_eq_true, if_true, if_false, ite_true, ite_false, List.length_cons, List.length_nil, Nat.zero_add, Nat.add_zero, and_true, true_and, true_or, or_true, and_self, Nat.le_refl, Nat.lt_irrefl, gI_sI, gL_sL, gQ_sQ, gI_sJ, gI_sL, gI_sQ, gL_sI, gL_sQ, gL_sJ, gQ_sI, gQ_sL, gQ_sJ, gN_sI, gN_sL, gN_sQ, gN_sJ, E_b2_0, E_cI_a, E_cI_b, E_cV_a, E_cV_b, E_c_0, E_dup_0, E_dup_1, E_i2l_0, E_inc_a, E_inc_b, E_je_0, E_jg_0, E_jmp_0, E_jz_0, E_kk, E_l2_0, E_lcmp_0, E_ldI_a, E_ldI_b, E_ldR_a, E_ldR_b, E_lsh_0, E_new_0, E_rZ_0, E_sld_0, E_slen_0, E_stI_0, E_stR_0, E_sw_0, Nat.reduceDiv, am_cc, am_nl, am_ok, am_pop, am_rt, am_set, am_v, am_vo, am_vs, cC_11, cC_12, gI_sO, gL_sO, gN_sO, gQ_sO, nN_10, nN_3, kL_law, kL_law_14, ha2, hb2, true_or]
  refine MM_mo _ _ _ _ _ ?_ (api_tear k σ hk hI)
  intro r σ1 h ro
  simp only [am_run_z, E_kk, Nat.add_zero]
  have hct := ct_rt r
  generalize hst : am_rt r [] = st0 at hct ⊢
  have hc8 : am_ct st0 ≤ 8 := by omega
  have hc8_1 : 1 + am_ct st0 ≤ 8 := by omega
  have hc8_2 : 2 + am_ct st0 ≤ 8 := by omega
  have hc8_3 : 3 + am_ct st0 ≤ 8 := by omega
  have hc8_4 : 4 + am_ct st0 ≤ 8 := by omega
  have hc8_5 : 5 + am_ct st0 ≤ 8 := by omega
  have hc8_6 : 6 + am_ct st0 ≤ 8 := by omega
  have ha3 : a + 0 ≤ 600000 := by omega
  have hb3 : b + 0 ≤ 7302250 := by omega
  rw [h_law L 2]
  simp only [am_run_z, am_run_s, bt, lf, am_in, am_ar, am_fit, am_ld, am_ct, Nat.reduceLT, Nat.reduceEqDiff, reduceIte, Nat.reduceAdd, Nat.reduceLeDiff, Nat.reduceSub, Bool.false_eq_true, if_true, if_false, ite_true, ite_false, List.length_cons, List.length_nil, Nat.zero_add, Nat.add_zero, and_true, true_and, true_or, or_true, and_self, Nat.le_refl, Nat.lt_irrefl, gI_sI, gL_sL, gQ_sQ, gI_sJ, gI_sL, gI_sQ, gL_sI, gL_sQ, gL_sJ, gQ_sI, gQ_sL, gQ_sJ, gN_sI, gN_sL, gN_sQ, gN_sJ, E_b2_0, E_cI_a, E_cI_b, E_cV_a, E_cV_b, E_c_0, E_dup_0, E_dup_1, E_i2l_0, E_inc_a, E_inc_b, E_je_0, E_jg_0, E_jmp_0, E_jz_0, E_kk, E_l2_0, E_lcmp_0, E_ldI_a, E_ldI_b, E_ldR_a, E_ldR_b, E_lsh_0, E_new_0, E_rZ_0, E_sld_0, E_slen_0, E_stI_0, E_stR_0, E_sw_0, Nat.reduceDiv, am_cc, am_nl, am_ok, am_pop, am_rt, am_set, am_v, am_vo, am_vs, cC_11, cC_12, gI_sO, gL_sO, gN_sO, gQ_sO, nN_10, nN_3, kL_law, kL_law_14, kL_law_16, hc8, hc8_1, hc8_2, hc8_3, hc8_4, hc8_5, hc8_6, E_kk, ha3, hb3, ha2, hb2, true_or]
  refine MM_mo _ _ _ _ _ ?_ h
  intro r2 σ2 hh ro2
  obtain ⟨⟨v, e1', e2'⟩, hI2⟩ := hh
  subst e1'
  subst e2'
  subst hst
  simp only [am_run_z, E_kk, am_rt, am_run_s, bt, lf, am_in, am_ar, am_fit, am_ld, am_ct, Nat.reduceLT, Nat.reduceEqDiff, reduceIte, Nat.reduceAdd, Nat.reduceLeDiff, Nat.reduceSub, Bool.false_eq_true, if_true, if_false, ite_true, ite_false, List.length_cons, List.length_nil, Nat.zero_add, Nat.add_zero, and_true, true_and, true_or, or_true, and_self, Nat.le_refl, Nat.lt_irrefl, gI_sI, gL_sL, gQ_sQ, gI_sJ, gI_sL, gI_sQ, gL_sI, gL_sQ, gL_sJ, gQ_sI, gQ_sL, gQ_sJ, gN_sI, gN_sL, gN_sQ, gN_sJ, E_b2_0, E_cI_a, E_cI_b, E_cV_a, E_cV_b, E_c_0, E_dup_0, E_dup_1, E_i2l_0, E_inc_a, E_inc_b, E_je_0, E_jg_0, E_jmp_0, E_jz_0, E_kk, E_l2_0, E_lcmp_0, E_ldI_a, E_ldI_b, E_ldR_a, E_ldR_b, E_lsh_0, E_new_0, E_rZ_0, E_sld_0, E_slen_0, E_stI_0, E_stR_0, E_sw_0, Nat.reduceDiv, am_cc, am_nl, am_ok, am_pop, am_rt, am_set, am_v, am_vo, am_vs, cC_11, cC_12, gI_sO, gL_sO, gN_sO, gQ_sO, nN_10, nN_3, kL_law, kL_law_14, kL_law_16]
  exact l_next (hX σ2 _ _ hI2 (by omega) (by omega))
theorem law_row {L k a b : Nat} {σ : HS} {Q : PO} (hk : k < 512) (hL : 6 * k + 6 ≤ L) (hL2 : L ≤ 3072) (hI : Inv k σ) (ha : a + 1 ≤ 600000) (hb : b + 18 ≤ 7302250) (hX : ∀ σ' a' b', Inv (k + 1) σ' → a' ≤ a + 1 → b' ≤ b + 18 → am_T (KL S1 L) MR Q 18 (lsL (k + 1)) [] σ' a' b') : am_T (KL S1 L) MR Q 1097 (lsL k) [] σ a b := by
  have e1 := nI_6 k 1 1 (by decide)
  have v1 : vp_in (nI (6 * k + 1)) L := vp_in_nI (by omega) (by omega)
  have c1 : (nI (6 * k + 1)).toNatClampNeg = 6 * k + 1 := nI_clamp (by omega)
  have e2 := nI_6 k 2 2 (by decide)
  have v2 : vp_in (nI (6 * k + 2)) L := vp_in_nI (by omega) (by omega)
  have c2 : (nI (6 * k + 2)).toNatClampNeg = 6 * k + 2 := nI_clamp (by omega)
  have e3 := nI_6 k 3 3 (by decide)
  have v3 : vp_in (nI (6 * k + 3)) L := vp_in_nI (by omega) (by omega)
  have c3 : (nI (6 * k + 3)).toNatClampNeg = 6 * k + 3 := nI_clamp (by omega)
  have e4 := nI_6 k 4 4 (by decide)
  have v4 : vp_in (nI (6 * k + 4)) L := vp_in_nI (by omega) (by omega)
  have c4 : (nI (6 * k + 4)).toNatClampNeg = 6 * k + 4 := nI_clamp (by omega)
  have e5 := nI_6 k 5 5 (by decide)
  have v5 : vp_in (nI (6 * k + 5)) L := vp_in_nI (by omega) (by omega)
  have c5 : (nI (6 * k + 5)).toNatClampNeg = 6 * k + 5 := nI_clamp (by omega)
  have ha2 : a ≤ 600000 := by omega
  have hb2 : b ≤ 7302250 := by omega
  rw [h_law L 6]
  simp only [am_run_z, am_run_s, bt, lf, am_in, am_ar, am_fit, am_ld, am_ct, Nat.reduceLT, Nat.reduceEqDiff, reduceIte, Nat.reduceAdd, Nat.reduceLeDiff, Nat.reduceSub, Bool.false_eq_true, if_true, if_false, ite_true, ite_false, List.length_cons, List.length_nil, Nat.zero_add, Nat.add_zero, and_true, true_and, true_or, or_true, and_self, Nat.le_refl, Nat.lt_irrefl, gI_sI, gL_sL, gQ_sQ, gI_sJ, gI_sL, gI_sQ, gL_sI, gL_sQ, gL_sJ, gQ_sI, gQ_sL, gQ_sJ, gN_sI, gN_sL, gN_sQ, gN_sJ, E_b2_0, E_cI_a, E_cI_b, E_cV_a, E_cV_b, E_c_0, E_dup_0, E_dup_1, E_i2l_0, E_inc_a, E_inc_b, E_je_0, E_jg_0, E_jmp_0, E_jz_0, E_kk, E_l2_0, E_lcmp_0, E_ldI_a, E_ldI_b, E_ldR_a, E_ldR_b, E_lsh_0, E_new_0, E_rZ_0, E_sld_0, E_slen_0, E_stI_0, E_stR_0, E_sw_0, Nat.reduceDiv, am_cc, am_nl, am_ok, am_pop, am_rt, am_set, am_v, am_vo, am_vs, cC_11, cC_12, gI_sO, gL_sO, gN_sO, gQ_sO, nN_10, nN_3, kL_law, kL_law_14, e1, v1, c1, e2, v2, c2, e3, v3, c3, e4, v4, c4, e5, v5, c5, ha2, hb2, true_or]
  refine MM_mo _ _ _ _ _ ?_ (api_row _ k σ hk hI)
  intro r σ1 h ro
  simp only [am_run_z, E_kk, Nat.add_zero]
  have hct := ct_rt r
  generalize hst : am_rt r [] = st0 at hct ⊢
  have hc8 : am_ct st0 ≤ 8 := by omega
  have hc8_1 : 1 + am_ct st0 ≤ 8 := by omega
  have hc8_2 : 2 + am_ct st0 ≤ 8 := by omega
  have hc8_3 : 3 + am_ct st0 ≤ 8 := by omega
  have hc8_4 : 4 + am_ct st0 ≤ 8 := by omega
  have hc8_5 : 5 + am_ct st0 ≤ 8 := by omega
  have hc8_6 : 6 + am_ct st0 ≤ 8 := by omega
  have sc : ∀ j, gI σ1 20 j = gI σ 20 j := ro.1
  have ha3 : a + 0 ≤ 600000 := by omega
  have hb3 : b + 0 ≤ 7302250 := by omega
  rw [h_law L 7]
  simp only [am_run_z, am_run_s, bt, lf, am_in, am_ar, am_fit, am_ld, am_ct, Nat.reduceLT, Nat.reduceEqDiff, reduceIte, Nat.reduceAdd, Nat.reduceLeDiff, Nat.reduceSub, Bool.false_eq_true, if_true, if_false, ite_true, ite_false, List.length_cons, List.length_nil, Nat.zero_add, Nat.add_zero, and_true, true_and, true_or, or_true, and_self, Nat.le_refl, Nat.lt_irrefl, gI_sI, gL_sL, gQ_sQ, gI_sJ, gI_sL, gI_sQ, gL_sI, gL_sQ, gL_sJ, gQ_sI, gQ_sL, gQ_sJ, gN_sI, gN_sL, gN_sQ, gN_sJ, E_b2_0, E_cI_a, E_cI_b, E_cV_a, E_cV_b, E_c_0, E_dup_0, E_dup_1, E_i2l_0, E_inc_a, E_inc_b, E_je_0, E_jg_0, E_jmp_0, E_jz_0, E_kk, E_l2_0, E_lcmp_0, E_ldI_a, E_ldI_b, E_ldR_a, E_ldR_b, E_lsh_0, E_new_0, E_rZ_0, E_sld_0, E_slen_0, E_stI_0, E_stR_0, E_sw_0, Nat.reduceDiv, am_cc, am_nl, am_ok, am_pop, am_rt, am_set, am_v, am_vo, am_vs, cC_11, cC_12, gI_sO, gL_sO, gN_sO, gQ_sO, nN_10, nN_3, kL_law, kL_law_14, kL_law_16, e1, v1, c1, e2, v2, c2, e3, v3, c3, e4, v4, c4, e5, v5, c5, hc8, hc8_1, hc8_2, hc8_3, hc8_4, hc8_5, hc8_6, sc, ha3, hb3, ha2, hb2, true_or]
  refine MM_mo _ _ _ _ _ ?_ h
  intro r2 σ2 hh ro2
  obtain ⟨⟨v, e1', e2'⟩, hI2⟩ := hh
  subst e1'
  subst e2'
  subst hst
  simp only [am_run_z, E_kk, am_rt, am_run_s, bt, lf, am_in, am_ar, am_fit, am_ld, am_ct, Nat.reduceLT, Nat.reduceEqDiff, reduceIte, Nat.reduceAdd, Nat.reduceLeDiff, Nat.reduceSub, Bool.false_eq_true, if_true, if_false, ite_true, ite_false, List.length_cons, List.length_nil, Nat.zero_add, Nat.add_zero, and_true, true_and, true_or, or_true, and_self, Nat.le_refl, Nat.lt_irrefl, gI_sI, gL_sL, gQ_sQ, gI_sJ, gI_sL, gI_sQ, gL_sI, gL_sQ, gL_sJ, gQ_sI, gQ_sL, gQ_sJ, gN_sI, gN_sL, gN_sQ, gN_sJ, E_b2_0, E_cI_a, E_cI_b, E_cV_a, E_cV_b, E_c_0, E_dup_0, E_dup_1, E_i2l_0, E_inc_a, E_inc_b, E_je_0, E_jg_0, E_jmp_0, E_jz_0, E_kk, E_l2_0, E_lcmp_0, E_ldI_a, E_ldI_b, E_ldR_a, E_ldR_b, E_lsh_0, E_new_0, E_rZ_0, E_sld_0, E_slen_0, E_stI_0, E_stR_0, E_sw_0, Nat.reduceDiv, am_cc, am_nl, am_ok, am_pop, am_rt, am_set, am_v, am_vo, am_vs, cC_11, cC_12, gI_sO, gL_sO, gN_sO, gQ_sO, nN_10, nN_3, kL_law, kL_law_14, kL_law_16]
  exact l_next (hX σ2 _ _ hI2 (by omega) (by omega))
theorem law_copy {L k a b : Nat} {σ : HS} {Q : PO} (hk : k < 512) (hL : 6 * k + 6 ≤ L) (hL2 : L ≤ 3072) (hI : Inv k σ) (ha : a + 1 ≤ 600000) (hb : b + 18 ≤ 7302250) (hX : ∀ σ' a' b', Inv (k + 1) σ' → a' ≤ a + 1 → b' ≤ b + 18 → am_T (KL S1 L) MR Q 18 (lsL (k + 1)) [] σ' a' b') : am_T (KL S1 L) MR Q 1120 (lsL k) [] σ a b := by
  have e1 := nI_6 k 1 1 (by decide)
  have v1 : vp_in (nI (6 * k + 1)) L := vp_in_nI (by omega) (by omega)
  have c1 : (nI (6 * k + 1)).toNatClampNeg = 6 * k + 1 := nI_clamp (by omega)
  have e2 := nI_6 k 2 2 (by decide)
  have v2 : vp_in (nI (6 * k + 2)) L := vp_in_nI (by omega) (by omega)
  have c2 : (nI (6 * k + 2)).toNatClampNeg = 6 * k + 2 := nI_clamp (by omega)
  have e3 := nI_6 k 3 3 (by decide)
  have v3 : vp_in (nI (6 * k + 3)) L := vp_in_nI (by omega) (by omega)
  have c3 : (nI (6 * k + 3)).toNatClampNeg = 6 * k + 3 := nI_clamp (by omega)
  have e4 := nI_6 k 4 4 (by decide)
  have v4 : vp_in (nI (6 * k + 4)) L := vp_in_nI (by omega) (by omega)
  have c4 : (nI (6 * k + 4)).toNatClampNeg = 6 * k + 4 := nI_clamp (by omega)
  have e5 := nI_6 k 5 5 (by decide)
  have v5 : vp_in (nI (6 * k + 5)) L := vp_in_nI (by omega) (by omega)
  have c5 : (nI (6 * k + 5)).toNatClampNeg = 6 * k + 5 := nI_clamp (by omega)
  have ha2 : a ≤ 600000 := by omega
  have hb2 : b ≤ 7302250 := by omega
  rw [h_law L 16]
  simp only [am_run_z, am_run_s, bt, lf, am_in, am_ar, am_fit, am_ld, am_ct, Nat.reduceLT, Nat.reduceEqDiff, reduceIte, Nat.reduceAdd, Nat.reduceLeDiff, Nat.reduceSub, Bool.false_eq_true, if_true, if_false, ite_true, ite_false, List.length_cons, List.length_nil, Nat.zero_add, Nat.add_zero, and_true, true_and, true_or, or_true, and_self, Nat.le_refl, Nat.lt_irrefl, gI_sI, gL_sL, gQ_sQ, gI_sJ, gI_sL, gI_sQ, gL_sI, gL_sQ, gL_sJ, gQ_sI, gQ_sL, gQ_sJ, gN_sI, gN_sL, gN_sQ, gN_sJ, E_b2_0, E_cI_a, E_cI_b, E_cV_a, E_cV_b, E_c_0, E_dup_0, E_dup_1, E_i2l_0, E_inc_a, E_inc_b, E_je_0, E_jg_0, E_jmp_0, E_jz_0, E_kk, E_l2_0, E_lcmp_0, E_ldI_a, E_ldI_b, E_ldR_a, E_ldR_b, E_lsh_0, E_new_0, E_rZ_0, E_sld_0, E_slen_0, E_stI_0, E_stR_0, E_sw_0, Nat.reduceDiv, am_cc, am_nl, am_ok, am_pop, am_rt, am_set, am_v, am_vo, am_vs, cC_11, cC_12, gI_sO, gL_sO, gN_sO, gQ_sO, nN_10, nN_3, kL_law, kL_law_15, e1, v1, c1, e2, v2, c2, e3, v3, c3, e4, v4, c4, e5, v5, c5, ha2, hb2, true_or]
  refine MM_mo _ _ _ _ _ ?_ (api_copy _ _ _ k σ hk hI)
  intro r σ1 h ro
  simp only [am_run_z, E_kk, Nat.add_zero]
  have hct := ct_rt r
  generalize hst : am_rt r [] = st0 at hct ⊢
  have hc8 : am_ct st0 ≤ 8 := by omega
  have hc8_1 : 1 + am_ct st0 ≤ 8 := by omega
  have hc8_2 : 2 + am_ct st0 ≤ 8 := by omega
  have hc8_3 : 3 + am_ct st0 ≤ 8 := by omega
  have hc8_4 : 4 + am_ct st0 ≤ 8 := by omega
  have hc8_5 : 5 + am_ct st0 ≤ 8 := by omega
  have hc8_6 : 6 + am_ct st0 ≤ 8 := by omega
  have sc : ∀ j, gI σ1 20 j = gI σ 20 j := ro.1
  have ha3 : a + 0 ≤ 600000 := by omega
  have hb3 : b + 0 ≤ 7302250 := by omega
  rw [h_law L 17]
  simp only [am_run_z, am_run_s, bt, lf, am_in, am_ar, am_fit, am_ld, am_ct, Nat.reduceLT, Nat.reduceEqDiff, reduceIte, Nat.reduceAdd, Nat.reduceLeDiff, Nat.reduceSub, Bool.false_eq_true, if_true, if_false, ite_true, ite_false, List.length_cons, List.length_nil, Nat.zero_add, Nat.add_zero, and_true, true_and, true_or, or_true, and_self, Nat.le_refl, Nat.lt_irrefl, gI_sI, gL_sL, gQ_sQ, gI_sJ, gI_sL, gI_sQ, gL_sI, gL_sQ, gL_sJ, gQ_sI, gQ_sL, gQ_sJ, gN_sI, gN_sL, gN_sQ, gN_sJ, E_b2_0, E_cI_a, E_cI_b, E_cV_a, E_cV_b, E_c_0, E_dup_0, E_dup_1, E_i2l_0, E_inc_a, E_inc_b, E_je_0, E_jg_0, E_jmp_0, E_jz_0, E_kk, E_l2_0, E_lcmp_0, E_ldI_a, E_ldI_b, E_ldR_a, E_ldR_b, E_lsh_0, E_new_0, E_rZ_0, E_sld_0, E_slen_0, E_stI_0, E_stR_0, E_sw_0, Nat.reduceDiv, am_cc, am_nl, am_ok, am_pop, am_rt, am_set, am_v, am_vo, am_vs, cC_11, cC_12, gI_sO, gL_sO, gN_sO, gQ_sO, nN_10, nN_3, kL_law, kL_law_15, kL_law_16, e1, v1, c1, e2, v2, c2, e3, v3, c3, e4, v4, c4, e5, v5, c5, hc8, hc8_1, hc8_2, hc8_3, hc8_4, hc8_5, hc8_6, sc, ha3, hb3, ha2, hb2, true_or]
  refine MM_mo _ _ _ _ _ ?_ h
  intro r2 σ2 hh ro2
  obtain ⟨⟨v, e1', e2'⟩, hI2⟩ := hh
  subst e1'
  subst e2'
  subst hst
  simp only [am_run_z, E_kk, am_rt, am_run_s, bt, lf, am_in, am_ar, am_fit, am_ld, am_ct, Nat.reduceLT, Nat.reduceEqDiff, reduceIte, Nat.reduceAdd, Nat.reduceLeDiff, Nat.reduceSub, Bool.false_eq_true, if_true, if_false, ite_true, ite_false, List.length_cons, List.length_nil, Nat.zero_add, Nat.add_zero, and_true, true_and, true_or, or_true, and_self, Nat.le_refl, Nat.lt_irrefl, gI_sI, gL_sL, gQ_sQ, gI_sJ, gI_sL, gI_sQ, gL_sI, gL_sQ, gL_sJ, gQ_sI, gQ_sL, gQ_sJ, gN_sI, gN_sL, gN_sQ, gN_sJ, E_b2_0, E_cI_a, E_cI_b, E_cV_a, E_cV_b, E_c_0, E_dup_0, E_dup_1, E_i2l_0, E_inc_a, E_inc_b, E_je_0, E_jg_0, E_jmp_0, E_jz_0, E_kk, E_l2_0, E_lcmp_0, E_ldI_a, E_ldI_b, E_ldR_a, E_ldR_b, E_lsh_0, E_new_0, E_rZ_0, E_sld_0, E_slen_0, E_stI_0, E_stR_0, E_sw_0, Nat.reduceDiv, am_cc, am_nl, am_ok, am_pop, am_rt, am_set, am_v, am_vo, am_vs, cC_11, cC_12, gI_sO, gL_sO, gN_sO, gQ_sO, nN_10, nN_3, kL_law, kL_law_15, kL_law_16]
  exact l_next (hX σ2 _ _ hI2 (by omega) (by omega))
theorem law_status {L k a b : Nat} {σ : HS} {Q : PO} (hk : k < 512) (hL : 6 * k + 6 ≤ L) (hL2 : L ≤ 3072) (hI : Inv k σ) (ha : a + 1 ≤ 600000) (hb : b + 18 ≤ 7302250) (hX : ∀ σ' a' b', Inv (k + 1) σ' → a' ≤ a + 1 → b' ≤ b + 18 → am_T (KL S1 L) MR Q 18 (lsL (k + 1)) [] σ' a' b') : am_T (KL S1 L) MR Q 1163 (lsL k) [] σ a b := by
  have e1 := nI_6 k 1 1 (by decide)
  have v1 : vp_in (nI (6 * k + 1)) L := vp_in_nI (by omega) (by omega)
  have c1 : (nI (6 * k + 1)).toNatClampNeg = 6 * k + 1 := nI_clamp (by omega)
  have e2 := nI_6 k 2 2 (by decide)
  have v2 : vp_in (nI (6 * k + 2)) L := vp_in_nI (by omega) (by omega)
  have c2 : (nI (6 * k + 2)).toNatClampNeg = 6 * k + 2 := nI_clamp (by omega)
  have e3 := nI_6 k 3 3 (by decide)
  have v3 : vp_in (nI (6 * k + 3)) L := vp_in_nI (by omega) (by omega)
  have c3 : (nI (6 * k + 3)).toNatClampNeg = 6 * k + 3 := nI_clamp (by omega)
  have e4 := nI_6 k 4 4 (by decide)
  have v4 : vp_in (nI (6 * k + 4)) L := vp_in_nI (by omega) (by omega)
  have c4 : (nI (6 * k + 4)).toNatClampNeg = 6 * k + 4 := nI_clamp (by omega)
  have e5 := nI_6 k 5 5 (by decide)
  have v5 : vp_in (nI (6 * k + 5)) L := vp_in_nI (by omega) (by omega)
  have c5 : (nI (6 * k + 5)).toNatClampNeg = 6 * k + 5 := nI_clamp (by omega)
  have ha2 : a ≤ 600000 := by omega
  have hb2 : b ≤ 7302250 := by omega
  rw [h_law L 6]
  simp only [am_run_z, am_run_s, bt, lf, am_in, am_ar, am_fit, am_ld, am_ct, Nat.reduceLT, Nat.reduceEqDiff, reduceIte, Nat.reduceAdd, Nat.reduceLeDiff, Nat.reduceSub, Bool.false_eq_true, if_true, if_false, ite_true, ite_false, List.length_cons, List.length_nil, Nat.zero_add, Nat.add_zero, and_true, true_and, true_or, or_true, and_self, Nat.le_refl, Nat.lt_irrefl, gI_sI, gL_sL, gQ_sQ, gI_sJ, gI_sL, gI_sQ, gL_sI, gL_sQ, gL_sJ, gQ_sI, gQ_sL, gQ_sJ, gN_sI, gN_sL, gN_sQ, gN_sJ, E_b2_0, E_cI_a, E_cI_b, E_cV_a, E_cV_b, E_c_0, E_dup_0, E_dup_1, E_i2l_0, E_inc_a, E_inc_b, E_je_0, E_jg_0, E_jmp_0, E_jz_0, E_kk, E_l2_0, E_lcmp_0, E_ldI_a, E_ldI_b, E_ldR_a, E_ldR_b, E_lsh_0, E_new_0, E_rZ_0, E_sld_0, E_slen_0, E_stI_0, E_stR_0, E_sw_0, Nat.reduceDiv, am_cc, am_nl, am_ok, am_pop, am_rt, am_set, am_v, am_vo, am_vs, cC_11, cC_12, gI_sO, gL_sO, gN_sO, gQ_sO, nN_10, nN_3, kL_law, kL_law_15, e1, v1, c1, e2, v2, c2, e3, v3, c3, e4, v4, c4, e5, v5, c5, ha2, hb2, true_or]
  refine MM_mo _ _ _ _ _ ?_ (api_status _ k σ hk hI)
  intro r σ1 h ro
  simp only [am_run_z, E_kk, Nat.add_zero]
  have hct := ct_rt r
  generalize hst : am_rt r [] = st0 at hct ⊢
  have hc8 : am_ct st0 ≤ 8 := by omega
  have hc8_1 : 1 + am_ct st0 ≤ 8 := by omega
  have hc8_2 : 2 + am_ct st0 ≤ 8 := by omega
  have hc8_3 : 3 + am_ct st0 ≤ 8 := by omega
  have hc8_4 : 4 + am_ct st0 ≤ 8 := by omega
  have hc8_5 : 5 + am_ct st0 ≤ 8 := by omega
  have hc8_6 : 6 + am_ct st0 ≤ 8 := by omega
  have sc : ∀ j, gI σ1 20 j = gI σ 20 j := ro.1
  have ha3 : a + 0 ≤ 600000 := by omega
  have hb3 : b + 0 ≤ 7302250 := by omega
  rw [h_law L 7]
  simp only [am_run_z, am_run_s, bt, lf, am_in, am_ar, am_fit, am_ld, am_ct, Nat.reduceLT, Nat.reduceEqDiff, reduceIte, Nat.reduceAdd, Nat.reduceLeDiff, Nat.reduceSub, Bool.false_eq_true, if_true, if_false, ite_true, ite_false, List.length_cons, List.length_nil, Nat.zero_add, Nat.add_zero, and_true, true_and, true_or, or_true, and_self, Nat.le_refl, Nat.lt_irrefl, gI_sI, gL_sL, gQ_sQ, gI_sJ, gI_sL, gI_sQ, gL_sI, gL_sQ, gL_sJ, gQ_sI, gQ_sL, gQ_sJ, gN_sI, gN_sL, gN_sQ, gN_sJ, E_b2_0, E_cI_a, E_cI_b, E_cV_a, E_cV_b, E_c_0, E_dup_0, E_dup_1, E_i2l_0, E_inc_a, E_inc_b, E_je_0, E_jg_0, E_jmp_0, E_jz_0, E_kk, E_l2_0, E_lcmp_0, E_ldI_a, E_ldI_b, E_ldR_a, E_ldR_b, E_lsh_0, E_new_0, E_rZ_0, E_sld_0, E_slen_0, E_stI_0, E_stR_0, E_sw_0, Nat.reduceDiv, am_cc, am_nl, am_ok, am_pop, am_rt, am_set, am_v, am_vo, am_vs, cC_11, cC_12, gI_sO, gL_sO, gN_sO, gQ_sO, nN_10, nN_3, kL_law, kL_law_15, kL_law_16, e1, v1, c1, e2, v2, c2, e3, v3, c3, e4, v4, c4, e5, v5, c5, hc8, hc8_1, hc8_2, hc8_3, hc8_4, hc8_5, hc8_6, sc, ha3, hb3, ha2, hb2, true_or]
  refine MM_mo _ _ _ _ _ ?_ h
  intro r2 σ2 hh ro2
  obtain ⟨⟨v, e1', e2'⟩, hI2⟩ := hh
  subst e1'
  subst e2'
  subst hst
  simp only [am_run_z, E_kk, am_rt, am_run_s, bt, lf, am_in, am_ar, am_fit, am_ld, am_ct, Nat.reduceLT, Nat.reduceEqDiff, reduceIte, Nat.reduceAdd, Nat.reduceLeDiff, Nat.reduceSub, Bool.false_eq_true, if_true, if_false, ite_true, ite_false, List.length_cons, List.length_nil, Nat.zero_add, Nat.add_zero, and_true, true_and, true_or, or_true, and_self, Nat.le_refl, Nat.lt_irrefl, gI_sI, gL_sL, gQ_sQ, gI_sJ, gI_sL, gI_sQ, gL_sI, gL_sQ, gL_sJ, gQ_sI, gQ_sL, gQ_sJ, gN_sI, gN_sL, gN_sQ, gN_sJ, E_b2_0, E_cI_a, E_cI_b, E_cV_a, E_cV_b, E_c_0, E_dup_0, E_dup_1, E_i2l_0, E_inc_a, E_inc_b, E_je_0, E_jg_0, E_jmp_0, E_jz_0, E_kk, E_l2_0, E_lcmp_0, E_ldI_a, E_ldI_b, E_ldR_a, E_ldR_b, E_lsh_0, E_new_0, E_rZ_0, E_sld_0, E_slen_0, E_stI_0, E_stR_0, E_sw_0, Nat.reduceDiv, am_cc, am_nl, am_ok, am_pop, am_rt, am_set, am_v, am_vo, am_vs, cC_11, cC_12, gI_sO, gL_sO, gN_sO, gQ_sO, nN_10, nN_3, kL_law, kL_law_15, kL_law_16]
  exact l_next (hX σ2 _ _ hI2 (by omega) (by omega))
theorem sub6 {L j : Nat} (hL : L ≤ 3072) (hj : j ≤ 4000) : (nI L - 6 < nI j) = (L < j + 6) := by
  apply propext
  have e6 : (6 : Int32) = nI 6 := by decide
  rw [Int32.lt_iff_toInt_lt, nI_toInt (n := j) (by omega), e6]
  have e : (nI L - nI 6).toInt = (L : Int) - 6 := by
    rw [Int32.toInt_sub, nI_toInt (by omega), nI_toInt (by omega), Int.bmod_eq_of_le]
    all_goals omega
  rw [e]
  omega
theorem l_law {L : Nat} (hL : L ≤ 3072) {Q : PO} (hQ : ∀ σ, Q (some (.inl 1)) σ) : ∀ (r k a b : Nat) (σ : HS), L < 6 * (k + r) + 6 → k ≤ 512 → a ≤ 1000 + k → b ≤ 10000 + 18 * k → Inv k σ → am_T (KL S1 L) MR Q 18 (lsL k) [] σ a b := by
  intro r
  have fin : ∀ (k a b : Nat) (σ : HS), k ≤ 512 → L < 6 * k + 6 → am_T (KL S1 L) MR Q 18 (lsL k) [] σ a b := by
    intro k a b σ hk h
    have hs := sub6 (L := L) (j := 6 * k) hL (by omega)
    rw [h_law L 7]
    simp only [am_run_s, bt, lf, am_in, am_ar, am_fit, am_ld, am_ct, Nat.reduceLT, Nat.reduceEqDiff, reduceIte, Nat.reduceAdd, Nat.reduceLeDiff, Nat.reduceSub, Bool.false_eq_true, if_true, if_false, ite_true, ite_false, List.length_cons, List.length_nil, Nat.zero_add, Nat.add_zero, and_true, true_and, true_or, or_true, and_self, Nat.le_refl, Nat.lt_irrefl, gI_sI, gL_sL, gQ_sQ, gI_sJ, gI_sL, gI_sQ, gL_sI, gL_sQ, gL_sJ, gQ_sI, gQ_sL, gQ_sJ, gN_sI, gN_sL, gN_sQ, gN_sJ, E_b2_0, E_cI_a, E_cI_b, E_cV_a, E_cV_b, E_c_0, E_dup_0, E_dup_1, E_i2l_0, E_inc_a, E_inc_b, E_je_0, E_jg_0, E_jmp_0, E_jz_0, E_kk, E_l2_0, E_lcmp_0, E_ldI_a, E_ldI_b, E_ldR_a, E_ldR_b, E_lsh_0, E_new_0, E_rZ_0, E_sld_0, E_slen_0, E_stI_0, E_stR_0, E_sw_0, Nat.reduceDiv, am_cc, am_nl, am_ok, am_pop, am_rt, am_set, am_v, am_vo, am_vs, cC_11, cC_12, gI_sO, gL_sO, gN_sO, gQ_sO, nN_10, nN_3, kL_law, kL_law_0, kL_law_16, hs, h, am_b1]
    exact hQ σ
  induction r with
  | zero => intro k a b σ h hk _ _ _; exact fin k a b σ hk (by omega)
  | succ r ih =>
    intro k a b σ h hk ha hb hI
    by_cases q : L < 6 * k + 6
    · exact fin k a b σ hk q
    · have hs := sub6 (L := L) (j := 6 * k) hL (by omega)
      have v0 : vp_in (nI (6 * k)) L := vp_in_nI (by omega) (by omega)
      have c0 : (nI (6 * k)).toNatClampNeg = 6 * k := nI_clamp (by omega)
      have go : ∀ σ' a' b', Inv (k + 1) σ' → a' ≤ a + 1 → b' ≤ b + 18 → am_T (KL S1 L) MR Q 18 (lsL (k + 1)) [] σ' a' b' := fun σ' a' b' hI' ha' hb' => ih (k + 1) a' b' σ' (by omega) (by omega) (by omega) (by omega) hI'
      rw [h_law L 11]
      simp only [am_run_z, am_run_s, bt, lf, am_in, am_ar, am_fit, am_ld, am_ct, Nat.reduceLT, Nat.reduceEqDiff, reduceIte, Nat.reduceAdd, Nat.reduceLeDiff, Nat.reduceSub, Bool.false_eq_true, if_true, if_false, ite_true, ite_false, List.length_cons, List.length_nil, Nat.zero_add, Nat.add_zero, and_true, true_and, true_or, or_true, and_self, Nat.le_refl, Nat.lt_irrefl, gI_sI, gL_sL, gQ_sQ, gI_sJ, gI_sL, gI_sQ, gL_sI, gL_sQ, gL_sJ, gQ_sI, gQ_sL, gQ_sJ, gN_sI, gN_sL, gN_sQ, gN_sJ, E_b2_0, E_cI_a, E_cI_b, E_cV_a, E_cV_b, E_c_0, E_dup_0, E_dup_1, E_i2l_0, E_inc_a, E_inc_b, E_je_0, E_jg_0, E_jmp_0, E_jz_0, E_kk, E_l2_0, E_lcmp_0, E_ldI_a, E_ldI_b, E_ldR_a, E_ldR_b, E_lsh_0, E_new_0, E_rZ_0, E_sld_0, E_slen_0, E_stI_0, E_stR_0, E_sw_0, Nat.reduceDiv, am_cc, am_nl, am_ok, am_pop, am_rt, am_set, am_v, am_vo, am_vs, cC_11, cC_12, gI_sO, gL_sO, gN_sO, gQ_sO, nN_10, nN_3, kL_law, kL_law_0, hs, q, v0, c0]
      refine am_sw_all ?_ _ ?_
      · simp only [am_run_z]
        exact l_next (go σ _ _ hI.up (by omega) (by omega))
      · simp only [List.forall_mem_cons, am_run_z]
        refine ⟨law_node (by omega) (by omega) hL hI (by omega) (by omega) go, law_word (by omega) (by omega) hL hI (by omega) (by omega) go, law_late (by omega) (by omega) hL hI (by omega) (by omega) go, law_due (by omega) (by omega) hL hI (by omega) (by omega) go, law_value (by omega) (by omega) hL hI (by omega) (by omega) go, law_rank (by omega) (by omega) hL hI (by omega) (by omega) go, law_of (by omega) (by omega) hL hI (by omega) (by omega) go, law_about (by omega) (by omega) hL hI (by omega) (by omega) go, law_size (by omega) (by omega) hL hI (by omega) (by omega) go, law_bit (by omega) (by omega) hL hI (by omega) (by omega) go, law_sum (by omega) (by omega) hL hI (by omega) (by omega) go, law_stuffed (by omega) (by omega) hL hI (by omega) (by omega) go, law_ahead (by omega) (by omega) hL hI (by omega) (by omega) go, law_feed (by omega) (by omega) hL hI (by omega) (by omega) go, law_lay (by omega) (by omega) hL hI (by omega) (by omega) go, law_bend (by omega) (by omega) hL hI (by omega) (by omega) go, law_wipe (by omega) (by omega) hL hI (by omega) (by omega) go, law_read (by omega) (by omega) hL hI (by omega) (by omega) go, law_told (by omega) (by omega) hL hI (by omega) (by omega) go, law_bytes (by omega) (by omega) hL hI (by omega) (by omega) go, law_come (by omega) (by omega) hL hI (by omega) (by omega) go, law_disturb (by omega) (by omega) hL hI (by omega) (by omega) go, law_run (by omega) (by omega) hL hI (by omega) (by omega) go, law_count (by omega) (by omega) hL hI (by omega) (by omega) go, law_log (by omega) (by omega) hL hI (by omega) (by omega) go, law_every (by omega) (by omega) hL hI (by omega) (by omega) go, law_most (by omega) (by omega) hL hI (by omega) (by omega) go, law_worst (by omega) (by omega) hL hI (by omega) (by omega) go, law_misses (by omega) (by omega) hL hI (by omega) (by omega) go, law_load (by omega) (by omega) hL hI (by omega) (by omega) go, law_order (by omega) (by omega) hL hI (by omega) (by omega) go, law_place (by omega) (by omega) hL hI (by omega) (by omega) go, law_give (by omega) (by omega) hL hI (by omega) (by omega) go, law_put (by omega) (by omega) hL hI (by omega) (by omega) go, law_tear (by omega) (by omega) hL hI (by omega) (by omega) go, law_row (by omega) (by omega) hL hI (by omega) (by omega) go, law_copy (by omega) (by omega) hL hI (by omega) (by omega) go, law_status (by omega) (by omega) hL hI (by omega) (by omega) go, fun q hq => absurd hq List.not_mem_nil⟩
