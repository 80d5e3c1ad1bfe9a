/-! ===== the class's Frame.build ===== -/
def RB (σ : HS) (l : List Int32) (st : Nat) (sm : Int32) : Prop := gI σ 201 0 = nI l.length ∧ gI σ 202 0 = nI st ∧ gI σ 203 0 = sm ∧ ∀ j, j < l.length → gI σ 25 j = l.getD j 0
def tl : Nat → Nat → List Int32
  | _, 0 => []
  | j, r + 1 => tailV j :: tl (j + 1) r
theorem tl_len : ∀ r j, (tl j r).length = r
  | 0, _ => rfl
  | r + 1, j => by simp [tl, tl_len r]
theorem l_tail {a : Option (Nat × Nat)} {b c : Int32} {Q : PO} {st : Nat} {sm : Int32} : ∀ (r j : Nat) (σ : HS) (l : List Int32), j + r = 10 → l.length + r < 160 → v_tai σ → RB σ l st sm →
    (∀ σ', frm PFX σ σ' → RB σ' (l ++ tl j r) st sm → Q none σ') →
    am_T (kX1_build S1) MM Q 176 [some (.inr (.inr (some (1, 0)))), some (.inr (.inr a)), some (.inl b), some (.inl c), some (.inl (nI j))] [] σ 0 0 := by
  intro r
  induction r with
  | zero =>
    intro j σ l hj hl ht hR hQ
    have : j = 10 := by omega
    subst this
    rw [hX1_build 60]
    have h0 : ¬ nI 10 < nI 10 := by decide
    simp only [am_run_s, bt, lf, am_in, am_ar, am_fit, am_ld, am_ct, Nat.reduceLT, Nat.reduceEqDiff, reduceIte, Nat.reduceAdd, Nat.reduceLeDiff, Nat.reduceSub, Bool.false_eq_true, if_true, if_false, ite_true, ite_false, List.length_cons, List.length_nil, Nat.zero_add, Nat.add_zero, and_true, true_and, true_or, or_true, and_self, Nat.le_refl, Nat.lt_irrefl, gI_sI, gL_sL, gQ_sQ, gI_sJ, gI_sL, gI_sQ, gL_sI, gL_sQ, gL_sJ, gQ_sI, gQ_sL, gQ_sJ, gN_sI, gN_sL, gN_sQ, gN_sJ, E_alen_0, E_b2_0, E_cV_a, E_cV_b, E_c_0, E_getI_0, E_getL_0, E_iald_0, E_inc_a, E_inc_b, E_jl_0, E_jmp_0, E_jn_0, E_jz_0, E_kk, E_l2i_0, E_ldI_a, E_ldI_b, E_ldR_a, E_ldR_b, E_lsh_0, E_putI_0, E_rV_0, E_stI_0, aL_21, am_cc, am_nl, am_ok, am_pop, am_rt, am_set, cC_1, cC_10, cC_21, kX1_build, kX1_build_0, kX1_build_1, kX1_build_2, h0, not_false_eq_true]
    refine hQ σ frm.rf ?_
    rw [show l ++ tl 10 0 = l by simp [tl]]
    exact hR
  | succ r ih =>
    intro j σ l hj hl ht hR hQ
    rw [hX1_build 60]
    have h0 : nI j < nI 10 := nI_lt (by omega) (by omega)
    have h3 : vp_in (nI j) 10 := vp_in_nI (by omega) (by omega)
    have h4 : (nI j).toNatClampNeg = j := nI_clamp (by omega)
    have ht' := ht j (by omega)
    obtain ⟨r1, r2, r3, r4⟩ := hR
    simp only [am_run_s, bt, lf, am_in, am_ar, am_fit, am_ld, am_ct, Nat.reduceLT, Nat.reduceEqDiff, reduceIte, Nat.reduceAdd, Nat.reduceLeDiff, Nat.reduceSub, Bool.false_eq_true, if_true, if_false, ite_true, ite_false, List.length_cons, List.length_nil, Nat.zero_add, Nat.add_zero, and_true, true_and, true_or, or_true, and_self, Nat.le_refl, Nat.lt_irrefl, gI_sI, gL_sL, gQ_sQ, gI_sJ, gI_sL, gI_sQ, gL_sI, gL_sQ, gL_sJ, gQ_sI, gQ_sL, gQ_sJ, gN_sI, gN_sL, gN_sQ, gN_sJ, E_alen_0, E_b2_0, E_cV_a, E_cV_b, E_c_0, E_getI_0, E_getL_0, E_iald_0, E_inc_a, E_inc_b, E_jl_0, E_jmp_0, E_jn_0, E_jz_0, E_kk, E_l2i_0, E_ldI_a, E_ldI_b, E_ldR_a, E_ldR_b, E_lsh_0, E_putI_0, E_rV_0, E_stI_0, aL_21, am_cc, am_nl, am_ok, am_pop, am_rt, am_set, cC_1, cC_10, cC_21, kX1_build, kX1_build_0, kX1_build_1, kX1_build_2, h0, h3, h4, ht', ↓s_push l.length (tailV j) _ _ (by omega : l.length < 160) r1, nI_1]
    have f0 : frm PFX σ (sI (sI σ 25 l.length (tailV j)) 201 0 (nI (l.length + 1))) := (frm.rf.si rfl).si rfl
    refine ih (j + 1) _ (l ++ [tailV j]) (by omega) (by simp; omega) ?_ ?_ (fun σ' f1 h1 => hQ σ' (f0.tr f1) ?_)
    · intro i hi
      simp only [gI_sI, gL_sL, gQ_sQ, gI_sJ, gI_sL, gI_sQ, gL_sI, gL_sQ, gL_sJ, gQ_sI, gQ_sL, gQ_sJ, gN_sI, gN_sL, gN_sQ, gN_sJ, Nat.reduceLT, Nat.reduceEqDiff, reduceIte, Nat.reduceAdd, Nat.reduceLeDiff, Nat.reduceSub, Bool.false_eq_true, if_true, if_false, ite_true, ite_false, List.length_cons, List.length_nil, Nat.zero_add, Nat.add_zero, and_true, true_and, true_or, or_true, and_self, Nat.le_refl, Nat.lt_irrefl]
      exact ht i hi
    · refine ⟨?_, ?_, ?_, fun i hi => ?_⟩
      · simp only [gI_sI, gL_sL, gQ_sQ, gI_sJ, gI_sL, gI_sQ, gL_sI, gL_sQ, gL_sJ, gQ_sI, gQ_sL, gQ_sJ, gN_sI, gN_sL, gN_sQ, gN_sJ, Nat.reduceLT, Nat.reduceEqDiff, reduceIte, Nat.reduceAdd, Nat.reduceLeDiff, Nat.reduceSub, Bool.false_eq_true, if_true, if_false, ite_true, ite_false, List.length_cons, List.length_nil, Nat.zero_add, Nat.add_zero, and_true, true_and, true_or, or_true, and_self, Nat.le_refl, Nat.lt_irrefl, List.length_append]
      · simp only [gI_sI, gL_sL, gQ_sQ, gI_sJ, gI_sL, gI_sQ, gL_sI, gL_sQ, gL_sJ, gQ_sI, gQ_sL, gQ_sJ, gN_sI, gN_sL, gN_sQ, gN_sJ, Nat.reduceLT, Nat.reduceEqDiff, reduceIte, Nat.reduceAdd, Nat.reduceLeDiff, Nat.reduceSub, Bool.false_eq_true, if_true, if_false, ite_true, ite_false, List.length_cons, List.length_nil, Nat.zero_add, Nat.add_zero, and_true, true_and, true_or, or_true, and_self, Nat.le_refl, Nat.lt_irrefl, r2]
      · simp only [gI_sI, gL_sL, gQ_sQ, gI_sJ, gI_sL, gI_sQ, gL_sI, gL_sQ, gL_sJ, gQ_sI, gQ_sL, gQ_sJ, gN_sI, gN_sL, gN_sQ, gN_sJ, Nat.reduceLT, Nat.reduceEqDiff, reduceIte, Nat.reduceAdd, Nat.reduceLeDiff, Nat.reduceSub, Bool.false_eq_true, if_true, if_false, ite_true, ite_false, List.length_cons, List.length_nil, Nat.zero_add, Nat.add_zero, and_true, true_and, true_or, or_true, and_self, Nat.le_refl, Nat.lt_irrefl, r3]
      · simp only [List.length_append, List.length_cons, List.length_nil] at hi
        simp only [gI_sI, gL_sL, gQ_sQ, gI_sJ, gI_sL, gI_sQ, gL_sI, gL_sQ, gL_sJ, gQ_sI, gQ_sL, gQ_sJ, gN_sI, gN_sL, gN_sQ, gN_sJ, Nat.reduceLT, Nat.reduceEqDiff, reduceIte, Nat.reduceAdd, Nat.reduceLeDiff, Nat.reduceSub, Bool.false_eq_true, if_true, if_false, ite_true, ite_false, List.length_cons, List.length_nil, Nat.zero_add, Nat.add_zero, and_true, true_and, true_or, or_true, and_self, Nat.le_refl, Nat.lt_irrefl]
        rw [getD_app (by omega)]
        by_cases e2 : i = l.length
        · rw [if_pos e2, if_pos e2]
        · rw [if_neg e2, if_neg e2]
          exact r4 i (by omega)
    · rw [show l ++ tl j (r + 1) = l ++ [tailV j] ++ tl (j + 1) r by simp [tl]]
      exact h1
def byc (v : Int64) (k : Nat) : Int32 := ((v.toUInt64 >>> ((8 * nI k).toInt64.toUInt64 &&& Int64.toUInt64 63)).toInt64).toInt32
def byX (v : Int64) : Nat → List Int32
  | 0 => []
  | k + 1 => nbX (byc v k) 8 ++ byX v k
theorem byX_s (v : Int64) (k : Nat) : byX v (k + 1) = nbX (byc v k) 8 ++ byX v k := rfl
theorem byX_len (v : Int64) : ∀ k, (byX v k).length = 8 * k
  | 0 => rfl
  | k + 1 => by simp [byX, byX_len v k, nbX_len]; omega
theorem fstL_app (a b : List Int32) (s : FS) : fstL (a ++ b) s = fstL b (fstL a s) := List.foldl_append ..
theorem crcL_app (f : Int32 → Int32 → Int32) (a b : List Int32) (s : Int32) : crcL f (a ++ b) s = crcL f b (crcL f a s) := List.foldl_append ..
/-- the frame's end: the sum's bits, and the tail -/
def frE (s : FS) (sm : Int32) : List Int32 := (fstL (nbX sm 15) s).1 ++ tl 0 10
theorem l_bytes {w : Nat} {v : Int64} {b c : Int32} {Q : PO} : ∀ (k p : Nat) (σ : HS) (s : FS) (sm : Int32), w < gN σ 10 → FOK p s → p + 8 * k ≤ 99 → v_tai σ → RFX σ s → gI σ 204 0 = sm → gL σ 1109 w = v →
    (∀ σ', frm PFX σ σ' → RB σ' (frE (fstL (byX v k) s) (crcL crcX (byX v k) sm)) (fstL (nbX (crcL crcX (byX v k) sm) 15) (fstL (byX v k) s)).2.1 (crcL crcX (byX v k) sm) → Q none σ') →
    am_T (kX1_build S1) MM Q 127 [some (.inr (.inr (some (1, 0)))), some (.inr (.inr (some (10, w)))), some (.inl b), some (.inl c), some (.inl (nI k - 1))] [] σ 0 0 := by
  intro k
  induction k with
  | zero =>
    intro p σ s sm hw hF hp ht hR hs hv hQ
    have e1 : fstL (byX v 0) s = s := rfl
    have e2 : crcL crcX (byX v 0) sm = sm := rfl
    rw [e1, e2] at hQ
    unfold frE at hQ
    rw [hX1_build 60]
    have h0 : nI 0 - 1 < 0 := by decide
    simp only [am_run_s, bt, lf, am_in, am_ar, am_fit, am_ld, am_ct, Nat.reduceLT, Nat.reduceEqDiff, reduceIte, Nat.reduceAdd, Nat.reduceLeDiff, Nat.reduceSub, Bool.false_eq_true, if_true, if_false, ite_true, ite_false, List.length_cons, List.length_nil, Nat.zero_add, Nat.add_zero, and_true, true_and, true_or, or_true, and_self, Nat.le_refl, Nat.lt_irrefl, gI_sI, gL_sL, gQ_sQ, gI_sJ, gI_sL, gI_sQ, gL_sI, gL_sQ, gL_sJ, gQ_sI, gQ_sL, gQ_sJ, gN_sI, gN_sL, gN_sQ, gN_sJ, E_alen_0, E_b2_0, E_cV_a, E_cV_b, E_c_0, E_getI_0, E_getL_0, E_iald_0, E_inc_a, E_inc_b, E_jl_0, E_jmp_0, E_jn_0, E_jz_0, E_kk, E_l2i_0, E_ldI_a, E_ldI_b, E_ldR_a, E_ldR_b, E_lsh_0, E_putI_0, E_rV_0, E_stI_0, aL_21, am_cc, am_nl, am_ok, am_pop, am_rt, am_set, cC_1, cC_10, cC_21, kX1_build, kX1_build_0, kX1_build_1, kX1_build_2, h0, hs]
    refine c_addNumber (w := 15) (s := s) (sm := sm) hF (by omega) ?_ ?_ (fun σ' f1 r1 s1 s2 => ?_) _ (by decide)
    · obtain ⟨q1, q2, q3, q4, q5⟩ := hR
      exact ⟨by simp only [gI_sI, gL_sL, gQ_sQ, gI_sJ, gI_sL, gI_sQ, gL_sI, gL_sQ, gL_sJ, gQ_sI, gQ_sL, gQ_sJ, gN_sI, gN_sL, gN_sQ, gN_sJ, Nat.reduceLT, Nat.reduceEqDiff, reduceIte, Nat.reduceAdd, Nat.reduceLeDiff, Nat.reduceSub, Bool.false_eq_true, if_true, if_false, ite_true, ite_false, List.length_cons, List.length_nil, Nat.zero_add, Nat.add_zero, and_true, true_and, true_or, or_true, and_self, Nat.le_refl, Nat.lt_irrefl, q1], by simp only [gI_sI, gL_sL, gQ_sQ, gI_sJ, gI_sL, gI_sQ, gL_sI, gL_sQ, gL_sJ, gQ_sI, gQ_sL, gQ_sJ, gN_sI, gN_sL, gN_sQ, gN_sJ, Nat.reduceLT, Nat.reduceEqDiff, reduceIte, Nat.reduceAdd, Nat.reduceLeDiff, Nat.reduceSub, Bool.false_eq_true, if_true, if_false, ite_true, ite_false, List.length_cons, List.length_nil, Nat.zero_add, Nat.add_zero, and_true, true_and, true_or, or_true, and_self, Nat.le_refl, Nat.lt_irrefl, q2], by simp only [gI_sI, gL_sL, gQ_sQ, gI_sJ, gI_sL, gI_sQ, gL_sI, gL_sQ, gL_sJ, gQ_sI, gQ_sL, gQ_sJ, gN_sI, gN_sL, gN_sQ, gN_sJ, Nat.reduceLT, Nat.reduceEqDiff, reduceIte, Nat.reduceAdd, Nat.reduceLeDiff, Nat.reduceSub, Bool.false_eq_true, if_true, if_false, ite_true, ite_false, List.length_cons, List.length_nil, Nat.zero_add, Nat.add_zero, and_true, true_and, true_or, or_true, and_self, Nat.le_refl, Nat.lt_irrefl, q3], by simp only [gI_sI, gL_sL, gQ_sQ, gI_sJ, gI_sL, gI_sQ, gL_sI, gL_sQ, gL_sJ, gQ_sI, gQ_sL, gQ_sJ, gN_sI, gN_sL, gN_sQ, gN_sJ, Nat.reduceLT, Nat.reduceEqDiff, reduceIte, Nat.reduceAdd, Nat.reduceLeDiff, Nat.reduceSub, Bool.false_eq_true, if_true, if_false, ite_true, ite_false, List.length_cons, List.length_nil, Nat.zero_add, Nat.add_zero, and_true, true_and, true_or, or_true, and_self, Nat.le_refl, Nat.lt_irrefl, q4], fun j hj => by simp only [gI_sI, gL_sL, gQ_sQ, gI_sJ, gI_sL, gI_sQ, gL_sI, gL_sQ, gL_sJ, gQ_sI, gQ_sL, gQ_sJ, gN_sI, gN_sL, gN_sQ, gN_sJ, Nat.reduceLT, Nat.reduceEqDiff, reduceIte, Nat.reduceAdd, Nat.reduceLeDiff, Nat.reduceSub, Bool.false_eq_true, if_true, if_false, ite_true, ite_false, List.length_cons, List.length_nil, Nat.zero_add, Nat.add_zero, and_true, true_and, true_or, or_true, and_self, Nat.le_refl, Nat.lt_irrefl, q5 j hj]⟩
    · simp only [gI_sI, gL_sL, gQ_sQ, gI_sJ, gI_sL, gI_sQ, gL_sI, gL_sQ, gL_sJ, gQ_sI, gQ_sL, gQ_sJ, gN_sI, gN_sL, gN_sQ, gN_sJ, Nat.reduceLT, Nat.reduceEqDiff, reduceIte, Nat.reduceAdd, Nat.reduceLeDiff, Nat.reduceSub, Bool.false_eq_true, if_true, if_false, ite_true, ite_false, List.length_cons, List.length_nil, Nat.zero_add, Nat.add_zero, and_true, true_and, true_or, or_true, and_self, Nat.le_refl, Nat.lt_irrefl, hs]
    simp only [am_run_s, bt, lf, am_in, am_ar, am_fit, am_ld, am_ct, Nat.reduceLT, Nat.reduceEqDiff, reduceIte, Nat.reduceAdd, Nat.reduceLeDiff, Nat.reduceSub, Bool.false_eq_true, if_true, if_false, ite_true, ite_false, List.length_cons, List.length_nil, Nat.zero_add, Nat.add_zero, and_true, true_and, true_or, or_true, and_self, Nat.le_refl, Nat.lt_irrefl, gI_sI, gL_sL, gQ_sQ, gI_sJ, gI_sL, gI_sQ, gL_sI, gL_sQ, gL_sJ, gQ_sI, gQ_sL, gQ_sJ, gN_sI, gN_sL, gN_sQ, gN_sJ, E_alen_0, E_b2_0, E_cV_a, E_cV_b, E_c_0, E_getI_0, E_getL_0, E_iald_0, E_inc_a, E_inc_b, E_jl_0, E_jmp_0, E_jn_0, E_jz_0, E_kk, E_l2i_0, E_ldI_a, E_ldI_b, E_ldR_a, E_ldR_b, E_lsh_0, E_putI_0, E_rV_0, E_stI_0, aL_21, am_cc, am_nl, am_ok, am_pop, am_rt, am_set, cC_1, cC_10, cC_21, kX1_build, kX1_build_0, kX1_build_1, kX1_build_2]
    have hF2 := hF.stL (nbX sm 15)
    rw [nbX_len] at hF2
    have f2 : frm PFX σ σ' := (frm.si frm.rf rfl).tr f1
    refine l_tail (st := (fstL (nbX sm 15) s).2.1) (sm := sm) 10 0 σ' (fstL (nbX sm 15) s).1 rfl (by have := hF2.1; have := hF2.2.1; omega) ?_ ?_ (fun σ2 f3 h3 => hQ σ2 (f2.tr f3) h3)
    · intro j hj
      rw [f2.gi rfl]
      exact ht j hj
    · refine ⟨r1.1, r1.2.1, ?_, r1.2.2.2.2⟩
      rw [s2]
      simp only [gI_sI, gL_sL, gQ_sQ, gI_sJ, gI_sL, gI_sQ, gL_sI, gL_sQ, gL_sJ, gQ_sI, gQ_sL, gQ_sJ, gN_sI, gN_sL, gN_sQ, gN_sJ, Nat.reduceLT, Nat.reduceEqDiff, reduceIte, Nat.reduceAdd, Nat.reduceLeDiff, Nat.reduceSub, Bool.false_eq_true, if_true, if_false, ite_true, ite_false, List.length_cons, List.length_nil, Nat.zero_add, Nat.add_zero, and_true, true_and, true_or, or_true, and_self, Nat.le_refl, Nat.lt_irrefl]
  | succ k ih =>
    intro p σ s sm hw hF hp ht hR hs hv hQ
    rw [hX1_build 60, nI_m1]
    have h0 := nI_f (j := k) (by omega)
    simp only [am_run_s, bt, lf, am_in, am_ar, am_fit, am_ld, am_ct, Nat.reduceLT, Nat.reduceEqDiff, reduceIte, Nat.reduceAdd, Nat.reduceLeDiff, Nat.reduceSub, Bool.false_eq_true, if_true, if_false, ite_true, ite_false, List.length_cons, List.length_nil, Nat.zero_add, Nat.add_zero, and_true, true_and, true_or, or_true, and_self, Nat.le_refl, Nat.lt_irrefl, gI_sI, gL_sL, gQ_sQ, gI_sJ, gI_sL, gI_sQ, gL_sI, gL_sQ, gL_sJ, gQ_sI, gQ_sL, gQ_sJ, gN_sI, gN_sL, gN_sQ, gN_sJ, E_alen_0, E_b2_0, E_cV_a, E_cV_b, E_c_0, E_getI_0, E_getL_0, E_iald_0, E_inc_a, E_inc_b, E_jl_0, E_jmp_0, E_jn_0, E_jz_0, E_kk, E_l2i_0, E_ldI_a, E_ldI_b, E_ldR_a, E_ldR_b, E_lsh_0, E_putI_0, E_rV_0, E_stI_0, aL_21, am_cc, am_nl, am_ok, am_pop, am_rt, am_set, cC_1, cC_10, cC_21, kX1_build, kX1_build_0, kX1_build_1, kX1_build_2, h0, hv, hw]
    refine c_addNumber (w := 8) (s := s) (sm := sm) hF (by omega) hR hs (fun σ' f1 r1 s1 s2 => ?_) _ (by decide)
    have hm : nI k + -1 = nI k - 1 := by
      rw [Int32.sub_eq_add_neg]
    simp only [am_run_s, bt, lf, am_in, am_ar, am_fit, am_ld, am_ct, Nat.reduceLT, Nat.reduceEqDiff, reduceIte, Nat.reduceAdd, Nat.reduceLeDiff, Nat.reduceSub, Bool.false_eq_true, if_true, if_false, ite_true, ite_false, List.length_cons, List.length_nil, Nat.zero_add, Nat.add_zero, and_true, true_and, true_or, or_true, and_self, Nat.le_refl, Nat.lt_irrefl, gI_sI, gL_sL, gQ_sQ, gI_sJ, gI_sL, gI_sQ, gL_sI, gL_sQ, gL_sJ, gQ_sI, gQ_sL, gQ_sJ, gN_sI, gN_sL, gN_sQ, gN_sJ, E_alen_0, E_b2_0, E_cV_a, E_cV_b, E_c_0, E_getI_0, E_getL_0, E_iald_0, E_inc_a, E_inc_b, E_jl_0, E_jmp_0, E_jn_0, E_jz_0, E_kk, E_l2i_0, E_ldI_a, E_ldI_b, E_ldR_a, E_ldR_b, E_lsh_0, E_putI_0, E_rV_0, E_stI_0, aL_21, am_cc, am_nl, am_ok, am_pop, am_rt, am_set, cC_1, cC_10, cC_21, kX1_build, kX1_build_0, kX1_build_1, kX1_build_2, hm]
    have hF2 := hF.stL (nbX (byc v k) 8)
    rw [nbX_len] at hF2
    refine ih (p + 8) σ' (fstL (nbX (byc v k) 8) s) (crcL crcX (nbX (byc v k) 8) sm) (by rw [f1.gn]; exact hw) hF2 (by omega) (fun j hj => by rw [f1.gi rfl]; exact ht j hj) r1 s1 (by rw [f1.gl]; exact hv) (fun σ2 f2 h2 => hQ σ2 (f1.tr f2) ?_)
    rw [byX_s, fstL_app, crcL_app]
    exact h2

/-- the plain bits of a frame, before the sum -/
def plX (r n : Int32) (v : Int64) (k : Nat) : List Int32 :=
  nbX 0 1 ++ ((if r < 2048 then nbX r 11 ++ nbX 0 1 else nbX (((r - 2048).toUInt32 >>> (Int32.toUInt32 18 &&& Int32.toUInt32 31)).toInt32) 11 ++ (nbX 1 1 ++ nbX (r - 2048) 18)) ++ (nbX n 4 ++ byX v k))
def fsE : FS := ([], 0, 0, -1)
def frL (bs : List Int32) (f : Int32 → Int32 → Int32) : List Int32 := frE (fstL bs fsE) (crcL f bs 0)
def frS (bs : List Int32) (f : Int32 → Int32 → Int32) : Nat := (fstL (nbX (crcL f bs 0) 15) (fstL bs fsE)).2.1
theorem c_build {w k : Nat} {σ : HS} {Q : PO} (hw : w < gN σ 10) (hk : k ≤ 8) (hn : gI σ 1104 w = nI k) (ht : v_tai σ)
    (hQ : ∀ σ', frm PFX σ σ' → RB σ' (frL (plX (gI σ 1102 w) (nI k) (gL σ 1109 w) k) crcX) (frS (plX (gI σ 1102 w) (nI k) (gL σ 1109 w) k) crcX) (crcL crcX (plX (gI σ 1102 w) (nI k) (gL σ 1109 w) k) 0) → Q none σ') :
    MM 16 [.inr (.inr (some (1, 0))), .inr (.inr (some (10, w)))] σ Q := by
  rw [eX1_build 100]
  simp only [am_run_s, bt, lf, am_in, am_ar, am_fit, am_ld, am_ct, Nat.reduceLT, Nat.reduceEqDiff, reduceIte, Nat.reduceAdd, Nat.reduceLeDiff, Nat.reduceSub, Bool.false_eq_true, if_true, if_false, ite_true, ite_false, List.length_cons, List.length_nil, Nat.zero_add, Nat.add_zero, and_true, true_and, true_or, or_true, and_self, Nat.le_refl, Nat.lt_irrefl, gI_sI, gL_sL, gQ_sQ, gI_sJ, gI_sL, gI_sQ, gL_sI, gL_sQ, gL_sJ, gQ_sI, gQ_sL, gQ_sJ, gN_sI, gN_sL, gN_sQ, gN_sJ, E_alen_0, E_b2_0, E_cV_a, E_cV_b, E_c_0, E_getI_0, E_getL_0, E_iald_0, E_inc_a, E_inc_b, E_jl_0, E_jmp_0, E_jn_0, E_jz_0, E_kk, E_l2i_0, E_ldI_a, E_ldI_b, E_ldR_a, E_ldR_b, E_lsh_0, E_putI_0, E_rV_0, E_stI_0, aL_21, am_cc, am_nl, am_ok, am_pop, am_rt, am_set, cC_1, cC_10, cC_21, kX1_build, kX1_build_0, kX1_build_1, kX1_build_2]
  have F0 : FOK 0 fsE := ⟨rfl, by decide, by decide⟩
  refine c_addNumber (w := 1) (p := 0) (s := fsE) (sm := 0) F0 (by omega) ?_ ?_ (fun σ1 f1 r1 s1 _ => ?_) _ (by decide)
  · exact ⟨by simp only [gI_sI, gL_sL, gQ_sQ, gI_sJ, gI_sL, gI_sQ, gL_sI, gL_sQ, gL_sJ, gQ_sI, gQ_sL, gQ_sJ, gN_sI, gN_sL, gN_sQ, gN_sJ, Nat.reduceLT, Nat.reduceEqDiff, reduceIte, Nat.reduceAdd, Nat.reduceLeDiff, Nat.reduceSub, Bool.false_eq_true, if_true, if_false, ite_true, ite_false, List.length_cons, List.length_nil, Nat.zero_add, Nat.add_zero, and_true, true_and, true_or, or_true, and_self, Nat.le_refl, Nat.lt_irrefl]; rfl, by simp only [gI_sI, gL_sL, gQ_sQ, gI_sJ, gI_sL, gI_sQ, gL_sI, gL_sQ, gL_sJ, gQ_sI, gQ_sL, gQ_sJ, gN_sI, gN_sL, gN_sQ, gN_sJ, Nat.reduceLT, Nat.reduceEqDiff, reduceIte, Nat.reduceAdd, Nat.reduceLeDiff, Nat.reduceSub, Bool.false_eq_true, if_true, if_false, ite_true, ite_false, List.length_cons, List.length_nil, Nat.zero_add, Nat.add_zero, and_true, true_and, true_or, or_true, and_self, Nat.le_refl, Nat.lt_irrefl]; rfl, by simp only [gI_sI, gL_sL, gQ_sQ, gI_sJ, gI_sL, gI_sQ, gL_sI, gL_sQ, gL_sJ, gQ_sI, gQ_sL, gQ_sJ, gN_sI, gN_sL, gN_sQ, gN_sJ, Nat.reduceLT, Nat.reduceEqDiff, reduceIte, Nat.reduceAdd, Nat.reduceLeDiff, Nat.reduceSub, Bool.false_eq_true, if_true, if_false, ite_true, ite_false, List.length_cons, List.length_nil, Nat.zero_add, Nat.add_zero, and_true, true_and, true_or, or_true, and_self, Nat.le_refl, Nat.lt_irrefl]; rfl, by simp only [gI_sI, gL_sL, gQ_sQ, gI_sJ, gI_sL, gI_sQ, gL_sI, gL_sQ, gL_sJ, gQ_sI, gQ_sL, gQ_sJ, gN_sI, gN_sL, gN_sQ, gN_sJ, Nat.reduceLT, Nat.reduceEqDiff, reduceIte, Nat.reduceAdd, Nat.reduceLeDiff, Nat.reduceSub, Bool.false_eq_true, if_true, if_false, ite_true, ite_false, List.length_cons, List.length_nil, Nat.zero_add, Nat.add_zero, and_true, true_and, true_or, or_true, and_self, Nat.le_refl, Nat.lt_irrefl]; rfl, fun j hj => absurd hj (Nat.not_lt_zero _)⟩
  · simp only [gI_sI, gL_sL, gQ_sQ, gI_sJ, gI_sL, gI_sQ, gL_sI, gL_sQ, gL_sJ, gQ_sI, gQ_sL, gQ_sJ, gN_sI, gN_sL, gN_sQ, gN_sJ, Nat.reduceLT, Nat.reduceEqDiff, reduceIte, Nat.reduceAdd, Nat.reduceLeDiff, Nat.reduceSub, Bool.false_eq_true, if_true, if_false, ite_true, ite_false, List.length_cons, List.length_nil, Nat.zero_add, Nat.add_zero, and_true, true_and, true_or, or_true, and_self, Nat.le_refl, Nat.lt_irrefl]
  have F1 := F0.stL (nbX 0 1)
  have g1 : frm PFX σ σ1 := ((((((frm.rf (σ := σ)).si (f := 201) (i := 0) (v := 0) rfl).si (f := 202) (i := 0) (v := 0) rfl).si (f := 204) (i := 0) (v := 0) rfl).si (f := 205) (i := 0) (v := 0) rfl).si (f := 206) (i := 0) (v := -1) rfl).tr f1
  generalize hr : gI σ 1102 w = r at hQ
  generalize hv : gL σ 1109 w = v at hQ
  have hw1 : w < gN σ1 10 := by rw [g1.gn]; exact hw
  have hr1 : gI σ1 1102 w = r := by rw [g1.gi rfl]; exact hr
  by_cases hs : r < 2048
  · simp only [am_run_s, bt, lf, am_in, am_ar, am_fit, am_ld, am_ct, Nat.reduceLT, Nat.reduceEqDiff, reduceIte, Nat.reduceAdd, Nat.reduceLeDiff, Nat.reduceSub, Bool.false_eq_true, if_true, if_false, ite_true, ite_false, List.length_cons, List.length_nil, Nat.zero_add, Nat.add_zero, and_true, true_and, true_or, or_true, and_self, Nat.le_refl, Nat.lt_irrefl, gI_sI, gL_sL, gQ_sQ, gI_sJ, gI_sL, gI_sQ, gL_sI, gL_sQ, gL_sJ, gQ_sI, gQ_sL, gQ_sJ, gN_sI, gN_sL, gN_sQ, gN_sJ, E_alen_0, E_b2_0, E_cV_a, E_cV_b, E_c_0, E_getI_0, E_getL_0, E_iald_0, E_inc_a, E_inc_b, E_jl_0, E_jmp_0, E_jn_0, E_jz_0, E_kk, E_l2i_0, E_ldI_a, E_ldI_b, E_ldR_a, E_ldR_b, E_lsh_0, E_putI_0, E_rV_0, E_stI_0, aL_21, am_cc, am_nl, am_ok, am_pop, am_rt, am_set, cC_1, cC_10, cC_21, kX1_build, kX1_build_0, kX1_build_1, kX1_build_2, hw1, hr1, hs]
    refine c_addNumber (w := 11) F1 (by simp only [nbX_len]; decide) r1 s1 (fun σ2 f2 r2 s2 _ => ?_) _ (by decide)
    have F2 := F1.stL (nbX r 11)
    simp only [am_run_s, bt, lf, am_in, am_ar, am_fit, am_ld, am_ct, Nat.reduceLT, Nat.reduceEqDiff, reduceIte, Nat.reduceAdd, Nat.reduceLeDiff, Nat.reduceSub, Bool.false_eq_true, if_true, if_false, ite_true, ite_false, List.length_cons, List.length_nil, Nat.zero_add, Nat.add_zero, and_true, true_and, true_or, or_true, and_self, Nat.le_refl, Nat.lt_irrefl, gI_sI, gL_sL, gQ_sQ, gI_sJ, gI_sL, gI_sQ, gL_sI, gL_sQ, gL_sJ, gQ_sI, gQ_sL, gQ_sJ, gN_sI, gN_sL, gN_sQ, gN_sJ, E_alen_0, E_b2_0, E_cV_a, E_cV_b, E_c_0, E_getI_0, E_getL_0, E_iald_0, E_inc_a, E_inc_b, E_jl_0, E_jmp_0, E_jn_0, E_jz_0, E_kk, E_l2i_0, E_ldI_a, E_ldI_b, E_ldR_a, E_ldR_b, E_lsh_0, E_putI_0, E_rV_0, E_stI_0, aL_21, am_cc, am_nl, am_ok, am_pop, am_rt, am_set, cC_1, cC_10, cC_21, kX1_build, kX1_build_0, kX1_build_1, kX1_build_2]
    refine c_addNumber (w := 1) F2 (by simp only [nbX_len]; decide) r2 s2 (fun σ3 f3 r3 s3 _ => ?_) _ (by decide)
    have F3 := F2.stL (nbX 0 1)
    have g3 := (g1.tr f2).tr f3
    have hw3 : w < gN σ3 10 := by rw [g3.gn]; exact hw
    have hn3 : gI σ3 1104 w = nI k := by rw [g3.gi rfl]; exact hn
    simp only [am_run_s, bt, lf, am_in, am_ar, am_fit, am_ld, am_ct, Nat.reduceLT, Nat.reduceEqDiff, reduceIte, Nat.reduceAdd, Nat.reduceLeDiff, Nat.reduceSub, Bool.false_eq_true, if_true, if_false, ite_true, ite_false, List.length_cons, List.length_nil, Nat.zero_add, Nat.add_zero, and_true, true_and, true_or, or_true, and_self, Nat.le_refl, Nat.lt_irrefl, gI_sI, gL_sL, gQ_sQ, gI_sJ, gI_sL, gI_sQ, gL_sI, gL_sQ, gL_sJ, gQ_sI, gQ_sL, gQ_sJ, gN_sI, gN_sL, gN_sQ, gN_sJ, E_alen_0, E_b2_0, E_cV_a, E_cV_b, E_c_0, E_getI_0, E_getL_0, E_iald_0, E_inc_a, E_inc_b, E_jl_0, E_jmp_0, E_jn_0, E_jz_0, E_kk, E_l2i_0, E_ldI_a, E_ldI_b, E_ldR_a, E_ldR_b, E_lsh_0, E_putI_0, E_rV_0, E_stI_0, aL_21, am_cc, am_nl, am_ok, am_pop, am_rt, am_set, cC_1, cC_10, cC_21, kX1_build, kX1_build_0, kX1_build_1, kX1_build_2, hw3, hn3]
    refine c_addNumber (w := 4) F3 (by simp only [nbX_len]; decide) r3 s3 (fun σ4 f4 r4 s4 _ => ?_) _ (by decide)
    have F4 := F3.stL (nbX (nI k) 4)
    have g4 := g3.tr f4
    have hw4 : w < gN σ4 10 := by rw [g4.gn]; exact hw
    have hn4 : gI σ4 1104 w = nI k := by rw [g4.gi rfl]; exact hn
    simp only [am_run_s, bt, lf, am_in, am_ar, am_fit, am_ld, am_ct, Nat.reduceLT, Nat.reduceEqDiff, reduceIte, Nat.reduceAdd, Nat.reduceLeDiff, Nat.reduceSub, Bool.false_eq_true, if_true, if_false, ite_true, ite_false, List.length_cons, List.length_nil, Nat.zero_add, Nat.add_zero, and_true, true_and, true_or, or_true, and_self, Nat.le_refl, Nat.lt_irrefl, gI_sI, gL_sL, gQ_sQ, gI_sJ, gI_sL, gI_sQ, gL_sI, gL_sQ, gL_sJ, gQ_sI, gQ_sL, gQ_sJ, gN_sI, gN_sL, gN_sQ, gN_sJ, E_alen_0, E_b2_0, E_cV_a, E_cV_b, E_c_0, E_getI_0, E_getL_0, E_iald_0, E_inc_a, E_inc_b, E_jl_0, E_jmp_0, E_jn_0, E_jz_0, E_kk, E_l2i_0, E_ldI_a, E_ldI_b, E_ldR_a, E_ldR_b, E_lsh_0, E_putI_0, E_rV_0, E_stI_0, aL_21, am_cc, am_nl, am_ok, am_pop, am_rt, am_set, cC_1, cC_10, cC_21, kX1_build, kX1_build_0, kX1_build_1, kX1_build_2, hw4, hn4]
    refine l_bytes (v := v) k _ σ4 _ _ hw4 F4 ?_ (fun j hj => by rw [g4.gi rfl]; exact ht j hj) r4 s4 (by rw [g4.gl]; exact hv) (fun σ5 f5 h5 => hQ σ5 (g4.tr f5) ?_)
    · simp only [nbX_len]; omega
    · unfold frL frS plX
      rw [if_pos hs]
      simp only [fstL_app, crcL_app]
      exact h5
  · simp only [am_run_s, bt, lf, am_in, am_ar, am_fit, am_ld, am_ct, Nat.reduceLT, Nat.reduceEqDiff, reduceIte, Nat.reduceAdd, Nat.reduceLeDiff, Nat.reduceSub, Bool.false_eq_true, if_true, if_false, ite_true, ite_false, List.length_cons, List.length_nil, Nat.zero_add, Nat.add_zero, and_true, true_and, true_or, or_true, and_self, Nat.le_refl, Nat.lt_irrefl, gI_sI, gL_sL, gQ_sQ, gI_sJ, gI_sL, gI_sQ, gL_sI, gL_sQ, gL_sJ, gQ_sI, gQ_sL, gQ_sJ, gN_sI, gN_sL, gN_sQ, gN_sJ, E_alen_0, E_b2_0, E_cV_a, E_cV_b, E_c_0, E_getI_0, E_getL_0, E_iald_0, E_inc_a, E_inc_b, E_jl_0, E_jmp_0, E_jn_0, E_jz_0, E_kk, E_l2i_0, E_ldI_a, E_ldI_b, E_ldR_a, E_ldR_b, E_lsh_0, E_putI_0, E_rV_0, E_stI_0, aL_21, am_cc, am_nl, am_ok, am_pop, am_rt, am_set, cC_1, cC_10, cC_21, kX1_build, kX1_build_0, kX1_build_1, kX1_build_2, hw1, hr1, hs]
    refine c_addNumber (w := 11) F1 (by simp only [nbX_len]; decide) r1 s1 (fun σ2 f2 r2 s2 _ => ?_) _ (by decide)
    have F2 := F1.stL (nbX (((r - 2048).toUInt32 >>> (Int32.toUInt32 18 &&& Int32.toUInt32 31)).toInt32) 11)
    simp only [am_run_s, bt, lf, am_in, am_ar, am_fit, am_ld, am_ct, Nat.reduceLT, Nat.reduceEqDiff, reduceIte, Nat.reduceAdd, Nat.reduceLeDiff, Nat.reduceSub, Bool.false_eq_true, if_true, if_false, ite_true, ite_false, List.length_cons, List.length_nil, Nat.zero_add, Nat.add_zero, and_true, true_and, true_or, or_true, and_self, Nat.le_refl, Nat.lt_irrefl, gI_sI, gL_sL, gQ_sQ, gI_sJ, gI_sL, gI_sQ, gL_sI, gL_sQ, gL_sJ, gQ_sI, gQ_sL, gQ_sJ, gN_sI, gN_sL, gN_sQ, gN_sJ, E_alen_0, E_b2_0, E_cV_a, E_cV_b, E_c_0, E_getI_0, E_getL_0, E_iald_0, E_inc_a, E_inc_b, E_jl_0, E_jmp_0, E_jn_0, E_jz_0, E_kk, E_l2i_0, E_ldI_a, E_ldI_b, E_ldR_a, E_ldR_b, E_lsh_0, E_putI_0, E_rV_0, E_stI_0, aL_21, am_cc, am_nl, am_ok, am_pop, am_rt, am_set, cC_1, cC_10, cC_21, kX1_build, kX1_build_0, kX1_build_1, kX1_build_2]
    refine c_addNumber (w := 1) F2 (by simp only [nbX_len]; decide) r2 s2 (fun σ3 f3 r3 s3 _ => ?_) _ (by decide)
    have F3 := F2.stL (nbX 1 1)
    simp only [am_run_s, bt, lf, am_in, am_ar, am_fit, am_ld, am_ct, Nat.reduceLT, Nat.reduceEqDiff, reduceIte, Nat.reduceAdd, Nat.reduceLeDiff, Nat.reduceSub, Bool.false_eq_true, if_true, if_false, ite_true, ite_false, List.length_cons, List.length_nil, Nat.zero_add, Nat.add_zero, and_true, true_and, true_or, or_true, and_self, Nat.le_refl, Nat.lt_irrefl, gI_sI, gL_sL, gQ_sQ, gI_sJ, gI_sL, gI_sQ, gL_sI, gL_sQ, gL_sJ, gQ_sI, gQ_sL, gQ_sJ, gN_sI, gN_sL, gN_sQ, gN_sJ, E_alen_0, E_b2_0, E_cV_a, E_cV_b, E_c_0, E_getI_0, E_getL_0, E_iald_0, E_inc_a, E_inc_b, E_jl_0, E_jmp_0, E_jn_0, E_jz_0, E_kk, E_l2i_0, E_ldI_a, E_ldI_b, E_ldR_a, E_ldR_b, E_lsh_0, E_putI_0, E_rV_0, E_stI_0, aL_21, am_cc, am_nl, am_ok, am_pop, am_rt, am_set, cC_1, cC_10, cC_21, kX1_build, kX1_build_0, kX1_build_1, kX1_build_2]
    refine c_addNumber (w := 18) F3 (by simp only [nbX_len]; decide) r3 s3 (fun σ3' f3' r3' s3' _ => ?_) _ (by decide)
    have F3' := F3.stL (nbX (r - 2048) 18)
    have g3 := ((g1.tr f2).tr f3).tr f3'
    have hw3 : w < gN σ3' 10 := by rw [g3.gn]; exact hw
    have hn3 : gI σ3' 1104 w = nI k := by rw [g3.gi rfl]; exact hn
    simp only [am_run_s, bt, lf, am_in, am_ar, am_fit, am_ld, am_ct, Nat.reduceLT, Nat.reduceEqDiff, reduceIte, Nat.reduceAdd, Nat.reduceLeDiff, Nat.reduceSub, Bool.false_eq_true, if_true, if_false, ite_true, ite_false, List.length_cons, List.length_nil, Nat.zero_add, Nat.add_zero, and_true, true_and, true_or, or_true, and_self, Nat.le_refl, Nat.lt_irrefl, gI_sI, gL_sL, gQ_sQ, gI_sJ, gI_sL, gI_sQ, gL_sI, gL_sQ, gL_sJ, gQ_sI, gQ_sL, gQ_sJ, gN_sI, gN_sL, gN_sQ, gN_sJ, E_alen_0, E_b2_0, E_cV_a, E_cV_b, E_c_0, E_getI_0, E_getL_0, E_iald_0, E_inc_a, E_inc_b, E_jl_0, E_jmp_0, E_jn_0, E_jz_0, E_kk, E_l2i_0, E_ldI_a, E_ldI_b, E_ldR_a, E_ldR_b, E_lsh_0, E_putI_0, E_rV_0, E_stI_0, aL_21, am_cc, am_nl, am_ok, am_pop, am_rt, am_set, cC_1, cC_10, cC_21, kX1_build, kX1_build_0, kX1_build_1, kX1_build_2, hw3, hn3]
    refine c_addNumber (w := 4) F3' (by simp only [nbX_len]; decide) r3' s3' (fun σ4 f4 r4 s4 _ => ?_) _ (by decide)
    have F4 := F3'.stL (nbX (nI k) 4)
    have g4 := g3.tr f4
    have hw4 : w < gN σ4 10 := by rw [g4.gn]; exact hw
    have hn4 : gI σ4 1104 w = nI k := by rw [g4.gi rfl]; exact hn
    simp only [am_run_s, bt, lf, am_in, am_ar, am_fit, am_ld, am_ct, Nat.reduceLT, Nat.reduceEqDiff, reduceIte, Nat.reduceAdd, Nat.reduceLeDiff, Nat.reduceSub, Bool.false_eq_true, if_true, if_false, ite_true, ite_false, List.length_cons, List.length_nil, Nat.zero_add, Nat.add_zero, and_true, true_and, true_or, or_true, and_self, Nat.le_refl, Nat.lt_irrefl, gI_sI, gL_sL, gQ_sQ, gI_sJ, gI_sL, gI_sQ, gL_sI, gL_sQ, gL_sJ, gQ_sI, gQ_sL, gQ_sJ, gN_sI, gN_sL, gN_sQ, gN_sJ, E_alen_0, E_b2_0, E_cV_a, E_cV_b, E_c_0, E_getI_0, E_getL_0, E_iald_0, E_inc_a, E_inc_b, E_jl_0, E_jmp_0, E_jn_0, E_jz_0, E_kk, E_l2i_0, E_ldI_a, E_ldI_b, E_ldR_a, E_ldR_b, E_lsh_0, E_putI_0, E_rV_0, E_stI_0, aL_21, am_cc, am_nl, am_ok, am_pop, am_rt, am_set, cC_1, cC_10, cC_21, kX1_build, kX1_build_0, kX1_build_1, kX1_build_2, hw4, hn4]
    refine l_bytes (v := v) k _ σ4 _ _ hw4 F4 ?_ (fun j hj => by rw [g4.gi rfl]; exact ht j hj) r4 s4 (by rw [g4.gl]; exact hv) (fun σ5 f5 h5 => hQ σ5 (g4.tr f5) ?_)
    · simp only [nbX_len]; omega
    · unfold frL frS plX
      rw [if_neg hs]
      simp only [fstL_app, crcL_app]
      exact h5
