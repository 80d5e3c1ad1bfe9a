/-! ===== disturbed ticks ===== -/
theorem l_isTold {σ : HS} {t : Int32} {c : Nat} {Q : PO} (hc : gI σ 501 0 = nI c) (h60 : c ≤ 60) (hs : (∃ j, j < c ∧ gI σ 30 j = t) → Q (some (.inl 1)) σ) (hn : (¬ ∃ j, j < c ∧ gI σ 30 j = t) → Q (some (.inl 0)) σ) :
    ∀ (n i : Nat), i + n = c → (¬ ∃ j, j < i ∧ gI σ 30 j = t) → am_T (kX4_isTold S1) MM Q 2 [some (.inr (.inr (some (4, 0)))), some (.inl t), some (.inl (nI i))] [] σ 0 0 := by
  intro n
  induction n with
  | zero =>
    intro i hi hb
    rw [hX4_isTold 14]
    have e : i = c := by omega
    subst e
    have h1 : ¬ nI i < nI i := nI_nlt (by omega) (by omega)
    simp only [am_run_s, bt, lf, am_in, am_ar, am_fit, am_ld, am_ct, Nat.reduceLT, Nat.reduceEqDiff, reduceIte, Nat.reduceAdd, Nat.reduceLeDiff, Nat.reduceSub, Bool.false_eq_true, if_true, if_false, ite_true, ite_false, List.length_cons, List.length_nil, Nat.zero_add, Nat.add_zero, and_true, true_and, true_or, or_true, and_self, Nat.le_refl, Nat.lt_irrefl, gI_sI, gL_sL, gQ_sQ, gI_sJ, gI_sL, gI_sQ, gL_sI, gL_sQ, gL_sJ, gQ_sI, gQ_sL, gQ_sJ, gN_sI, gN_sL, gN_sQ, gN_sJ, E_c_0, E_getI_0, E_getR_0, E_iald_0, E_inc_a, E_inc_b, E_je_0, E_jl_0, E_jmp_0, E_ldI_a, E_ldI_b, E_ldR_a, E_ldR_b, E_rZ_0, E_stI_0, aL_30, am_nl, am_ok, am_set, cC_30, cC_4, rR_500, kX4_isTold, hc, h1, am_b0]
    exact hn hb
  | succ n ih =>
    intro i hi hb
    rw [hX4_isTold 14]
    have h1 := nI_t (show i < c by omega) (by omega)
    have h3 : vp_in (nI i) 60 := vp_in_nI (by omega) (by omega)
    have h4 : (nI i).toNatClampNeg = i := nI_clamp (by omega)
    by_cases e : gI σ 30 i = t
    · simp only [am_run_s, bt, lf, am_in, am_ar, am_fit, am_ld, am_ct, Nat.reduceLT, Nat.reduceEqDiff, reduceIte, Nat.reduceAdd, Nat.reduceLeDiff, Nat.reduceSub, Bool.false_eq_true, if_true, if_false, ite_true, ite_false, List.length_cons, List.length_nil, Nat.zero_add, Nat.add_zero, and_true, true_and, true_or, or_true, and_self, Nat.le_refl, Nat.lt_irrefl, gI_sI, gL_sL, gQ_sQ, gI_sJ, gI_sL, gI_sQ, gL_sI, gL_sQ, gL_sJ, gQ_sI, gQ_sL, gQ_sJ, gN_sI, gN_sL, gN_sQ, gN_sJ, E_c_0, E_getI_0, E_getR_0, E_iald_0, E_inc_a, E_inc_b, E_je_0, E_jl_0, E_jmp_0, E_ldI_a, E_ldI_b, E_ldR_a, E_ldR_b, E_rZ_0, E_stI_0, aL_30, am_nl, am_ok, am_set, cC_30, cC_4, rR_500, kX4_isTold, hc, h1, h3, h4, e, am_b1]
      exact hs ⟨i, by omega, e⟩
    · simp only [am_run_s, bt, lf, am_in, am_ar, am_fit, am_ld, am_ct, Nat.reduceLT, Nat.reduceEqDiff, reduceIte, Nat.reduceAdd, Nat.reduceLeDiff, Nat.reduceSub, Bool.false_eq_true, if_true, if_false, ite_true, ite_false, List.length_cons, List.length_nil, Nat.zero_add, Nat.add_zero, and_true, true_and, true_or, or_true, and_self, Nat.le_refl, Nat.lt_irrefl, gI_sI, gL_sL, gQ_sQ, gI_sJ, gI_sL, gI_sQ, gL_sI, gL_sQ, gL_sJ, gQ_sI, gQ_sL, gQ_sJ, gN_sI, gN_sL, gN_sQ, gN_sJ, E_c_0, E_getI_0, E_getR_0, E_iald_0, E_inc_a, E_inc_b, E_je_0, E_jl_0, E_jmp_0, E_ldI_a, E_ldI_b, E_ldR_a, E_ldR_b, E_rZ_0, E_stI_0, aL_30, am_nl, am_ok, am_set, cC_30, cC_4, rR_500, kX4_isTold, hc, h1, h3, h4, e, nI_1]
      refine ih (i + 1) (by omega) ?_
      rintro ⟨q, q1, q2⟩
      by_cases e2 : q = i
      · rw [e2] at q2; exact e q2
      · exact hb ⟨q, by omega, q2⟩
theorem c_isTold {σ : HS} {t : Int32} {c : Nat} {Q : PO} (hc : gI σ 501 0 = nI c) (h60 : c ≤ 60) (hs : (∃ j, j < c ∧ gI σ 30 j = t) → Q (some (.inl 1)) σ) (hn : (¬ ∃ j, j < c ∧ gI σ 30 j = t) → Q (some (.inl 0)) σ) : MM 29 [.inr (.inr (some (4, 0))), .inl t] σ Q := by
  rw [eX4_isTold 4]
  simp only [am_run_s, bt, lf, am_in, am_ar, am_fit, am_ld, am_ct, Nat.reduceLT, Nat.reduceEqDiff, reduceIte, Nat.reduceAdd, Nat.reduceLeDiff, Nat.reduceSub, Bool.false_eq_true, if_true, if_false, ite_true, ite_false, List.length_cons, List.length_nil, Nat.zero_add, Nat.add_zero, and_true, true_and, true_or, or_true, and_self, Nat.le_refl, Nat.lt_irrefl, gI_sI, gL_sL, gQ_sQ, gI_sJ, gI_sL, gI_sQ, gL_sI, gL_sQ, gL_sJ, gQ_sI, gQ_sL, gQ_sJ, gN_sI, gN_sL, gN_sQ, gN_sJ, E_c_0, E_getI_0, E_getR_0, E_iald_0, E_inc_a, E_inc_b, E_je_0, E_jl_0, E_jmp_0, E_ldI_a, E_ldI_b, E_ldR_a, E_ldR_b, E_rZ_0, E_stI_0, aL_30, am_nl, am_ok, am_set, cC_30, cC_4, rR_500, kX4_isTold]
  exact l_isTold hc h60 hs hn c 0 (by omega) (fun ⟨_, z, _⟩ => absurd z (by omega))
theorem l_isDist {σ : HS} {t : Int32} {c : Nat} {Q : PO} (hc : gI σ 1352 0 = nI c) (h60 : c ≤ 60) (hs : (∃ j, j < c ∧ gI σ 54 j = t) → Q (some (.inl 1)) σ) (hn : (¬ ∃ j, j < c ∧ gI σ 54 j = t) → Q (some (.inl 0)) σ) :
    ∀ (n i : Nat) (b : Int32), i + n = c → (b = 0 ∧ (¬ ∃ i', i' < i ∧ gI σ 54 i' = t) ∨ b = 1 ∧ ∃ i', i' < i ∧ gI σ 54 i' = t) → am_T (kX12_isDisturbed S1) MM Q 4 [some (.inr (.inr (some (12, 0)))), some (.inl t), some (.inl b), some (.inl (nI i))] [] σ 0 0 := by
  intro n
  induction n with
  | zero =>
    intro i b hi hb
    rw [hX12_isDisturbed 18]
    have hi' : i = c := by omega
    subst hi'
    have h1 : ¬ nI i < nI i := nI_nlt (by omega) (by omega)
    rcases hb with ⟨rfl, hb⟩ | ⟨rfl, hb⟩
    · simp only [am_run_s, bt, lf, am_in, am_ar, am_fit, am_ld, am_ct, Nat.reduceLT, Nat.reduceEqDiff, reduceIte, Nat.reduceAdd, Nat.reduceLeDiff, Nat.reduceSub, Bool.false_eq_true, if_true, if_false, ite_true, ite_false, List.length_cons, List.length_nil, Nat.zero_add, Nat.add_zero, and_true, true_and, true_or, or_true, and_self, Nat.le_refl, Nat.lt_irrefl, gI_sI, gL_sL, gQ_sQ, gI_sJ, gI_sL, gI_sQ, gL_sI, gL_sQ, gL_sJ, gQ_sI, gQ_sL, gQ_sJ, gN_sI, gN_sL, gN_sQ, gN_sJ, E_c_0, E_getI_0, E_getR_0, E_iald_0, E_inc_a, E_inc_b, E_je_0, E_jl_0, E_jmp_0, E_jz_0, E_ldI_a, E_ldI_b, E_ldR_a, E_ldR_b, E_rZ_0, E_stI_0, aL_54, am_nl, am_ok, am_set, cC_12, cC_54, rR_1351, kX12_isDisturbed, hc, h1, am_b0]
      exact hn hb
    · simp only [am_run_s, bt, lf, am_in, am_ar, am_fit, am_ld, am_ct, Nat.reduceLT, Nat.reduceEqDiff, reduceIte, Nat.reduceAdd, Nat.reduceLeDiff, Nat.reduceSub, Bool.false_eq_true, if_true, if_false, ite_true, ite_false, List.length_cons, List.length_nil, Nat.zero_add, Nat.add_zero, and_true, true_and, true_or, or_true, and_self, Nat.le_refl, Nat.lt_irrefl, gI_sI, gL_sL, gQ_sQ, gI_sJ, gI_sL, gI_sQ, gL_sI, gL_sQ, gL_sJ, gQ_sI, gQ_sL, gQ_sJ, gN_sI, gN_sL, gN_sQ, gN_sJ, E_c_0, E_getI_0, E_getR_0, E_iald_0, E_inc_a, E_inc_b, E_je_0, E_jl_0, E_jmp_0, E_jz_0, E_ldI_a, E_ldI_b, E_ldR_a, E_ldR_b, E_rZ_0, E_stI_0, aL_54, am_nl, am_ok, am_set, cC_12, cC_54, rR_1351, kX12_isDisturbed, hc, h1, am_b1]
      exact hs hb
  | succ n ih =>
    intro i b hi hb
    rw [hX12_isDisturbed 18]
    have h1 := nI_t (show i < c by omega) (by omega)
    have h3 : vp_in (nI i) 60 := vp_in_nI (by omega) (by omega)
    have h4 : (nI i).toNatClampNeg = i := nI_clamp (by omega)
    have up : ∀ q, q < i + 1 ↔ (q < i ∨ q = i) := fun q => by omega
    rcases hb with ⟨rfl, hb⟩ | ⟨rfl, hb⟩
    · by_cases e : gI σ 54 i = t
      · simp only [am_run_s, bt, lf, am_in, am_ar, am_fit, am_ld, am_ct, Nat.reduceLT, Nat.reduceEqDiff, reduceIte, Nat.reduceAdd, Nat.reduceLeDiff, Nat.reduceSub, Bool.false_eq_true, if_true, if_false, ite_true, ite_false, List.length_cons, List.length_nil, Nat.zero_add, Nat.add_zero, and_true, true_and, true_or, or_true, and_self, Nat.le_refl, Nat.lt_irrefl, gI_sI, gL_sL, gQ_sQ, gI_sJ, gI_sL, gI_sQ, gL_sI, gL_sQ, gL_sJ, gQ_sI, gQ_sL, gQ_sJ, gN_sI, gN_sL, gN_sQ, gN_sJ, E_c_0, E_getI_0, E_getR_0, E_iald_0, E_inc_a, E_inc_b, E_je_0, E_jl_0, E_jmp_0, E_jz_0, E_ldI_a, E_ldI_b, E_ldR_a, E_ldR_b, E_rZ_0, E_stI_0, aL_54, am_nl, am_ok, am_set, cC_12, cC_54, rR_1351, kX12_isDisturbed, hc, h1, h3, h4, e, nI_1]
        exact ih (i + 1) 1 (by omega) (Or.inr ⟨rfl, i, by omega, e⟩)
      · simp only [am_run_s, bt, lf, am_in, am_ar, am_fit, am_ld, am_ct, Nat.reduceLT, Nat.reduceEqDiff, reduceIte, Nat.reduceAdd, Nat.reduceLeDiff, Nat.reduceSub, Bool.false_eq_true, if_true, if_false, ite_true, ite_false, List.length_cons, List.length_nil, Nat.zero_add, Nat.add_zero, and_true, true_and, true_or, or_true, and_self, Nat.le_refl, Nat.lt_irrefl, gI_sI, gL_sL, gQ_sQ, gI_sJ, gI_sL, gI_sQ, gL_sI, gL_sQ, gL_sJ, gQ_sI, gQ_sL, gQ_sJ, gN_sI, gN_sL, gN_sQ, gN_sJ, E_c_0, E_getI_0, E_getR_0, E_iald_0, E_inc_a, E_inc_b, E_je_0, E_jl_0, E_jmp_0, E_jz_0, E_ldI_a, E_ldI_b, E_ldR_a, E_ldR_b, E_rZ_0, E_stI_0, aL_54, am_nl, am_ok, am_set, cC_12, cC_54, rR_1351, kX12_isDisturbed, hc, h1, h3, h4, e, nI_1]
        refine ih (i + 1) 0 (by omega) (Or.inl ⟨rfl, ?_⟩)
        rintro ⟨q, q1, q2⟩
        rcases (up q).mp q1 with q3 | q3
        · exact hb ⟨q, q3, q2⟩
        · rw [q3] at q2; exact e q2
    · simp only [am_run_s, bt, lf, am_in, am_ar, am_fit, am_ld, am_ct, Nat.reduceLT, Nat.reduceEqDiff, reduceIte, Nat.reduceAdd, Nat.reduceLeDiff, Nat.reduceSub, Bool.false_eq_true, if_true, if_false, ite_true, ite_false, List.length_cons, List.length_nil, Nat.zero_add, Nat.add_zero, and_true, true_and, true_or, or_true, and_self, Nat.le_refl, Nat.lt_irrefl, gI_sI, gL_sL, gQ_sQ, gI_sJ, gI_sL, gI_sQ, gL_sI, gL_sQ, gL_sJ, gQ_sI, gQ_sL, gQ_sJ, gN_sI, gN_sL, gN_sQ, gN_sJ, E_c_0, E_getI_0, E_getR_0, E_iald_0, E_inc_a, E_inc_b, E_je_0, E_jl_0, E_jmp_0, E_jz_0, E_ldI_a, E_ldI_b, E_ldR_a, E_ldR_b, E_rZ_0, E_stI_0, aL_54, am_nl, am_ok, am_set, cC_12, cC_54, rR_1351, kX12_isDisturbed, hc, h1, h3, h4, i01, nI_1]
      obtain ⟨q, q1, q2⟩ := hb
      exact ih (i + 1) 1 (by omega) (Or.inr ⟨rfl, q, by omega, q2⟩)
theorem c_isDist {σ : HS} {t : Int32} {c : Nat} {Q : PO} (hc : gI σ 1352 0 = nI c) (h60 : c ≤ 60) (hs : (∃ j, j < c ∧ gI σ 54 j = t) → Q (some (.inl 1)) σ) (hn : (¬ ∃ j, j < c ∧ gI σ 54 j = t) → Q (some (.inl 0)) σ) : MM 178 [.inr (.inr (some (12, 0))), .inl t] σ Q := by
  rw [eX12_isDisturbed 6]
  simp only [am_run_s, bt, lf, am_in, am_ar, am_fit, am_ld, am_ct, Nat.reduceLT, Nat.reduceEqDiff, reduceIte, Nat.reduceAdd, Nat.reduceLeDiff, Nat.reduceSub, Bool.false_eq_true, if_true, if_false, ite_true, ite_false, List.length_cons, List.length_nil, Nat.zero_add, Nat.add_zero, and_true, true_and, true_or, or_true, and_self, Nat.le_refl, Nat.lt_irrefl, gI_sI, gL_sL, gQ_sQ, gI_sJ, gI_sL, gI_sQ, gL_sI, gL_sQ, gL_sJ, gQ_sI, gQ_sL, gQ_sJ, gN_sI, gN_sL, gN_sQ, gN_sJ, E_c_0, E_getI_0, E_getR_0, E_iald_0, E_inc_a, E_inc_b, E_je_0, E_jl_0, E_jmp_0, E_jz_0, E_ldI_a, E_ldI_b, E_ldR_a, E_ldR_b, E_rZ_0, E_stI_0, aL_54, am_nl, am_ok, am_set, cC_12, cC_54, rR_1351, kX12_isDisturbed]
  exact l_isDist hc h60 hs hn c 0 0 (by omega) (Or.inl ⟨rfl, fun ⟨_, z, _⟩ => absurd z (by omega)⟩)
def PNX (f : Nat) : Bool := Nat.beq f 501 || Nat.beq f 30
theorem l_add {t : Int32} {T : Nat → Int32} {c : Nat} {Q : PO} (hc : c < 60) : ∀ (a : Nat) (σ : HS), a ≤ c → gI σ 501 0 = nI c → (∀ j, gI σ 30 j = if a < j ∧ j ≤ c then T (j - 1) else T j) → (∀ j, a ≤ j → j < c → t < T j) →
    (∀ (p : Nat) (σ' : HS), frm PNX σ σ' → p ≤ c → (p = 0 ∨ ¬ t < T (p - 1)) → (∀ j, p ≤ j → j < c → t < T j) → gI σ' 501 0 = nI (c + 1) → (∀ j, j ≤ c → gI σ' 30 j = if j < p then T j else if j = p then t else T (j - 1)) → Q none σ') →
    am_T (kX4_add S1) MM Q 15 [some (.inr (.inr (some (4, 0)))), some (.inl t), some (.inl (nI a))] [] σ 0 0 := by
  intro a
  induction a with
  | zero =>
    intro σ ha hn hT hg hQ
    rw [hX4_add 23]
    have h0 : ¬ 0 < nI 0 := by decide
    have h3 : vp_in (nI 0) 60 := vp_in_nI (by omega) (by omega)
    have h4 : (nI 0).toNatClampNeg = 0 := nI_clamp (by omega)
    simp only [am_run_s, bt, lf, am_in, am_ar, am_fit, am_ld, am_ct, Nat.reduceLT, Nat.reduceEqDiff, reduceIte, Nat.reduceAdd, Nat.reduceLeDiff, Nat.reduceSub, Bool.false_eq_true, if_true, if_false, ite_true, ite_false, List.length_cons, List.length_nil, Nat.zero_add, Nat.add_zero, and_true, true_and, true_or, or_true, and_self, Nat.le_refl, Nat.lt_irrefl, gI_sI, gL_sL, gQ_sQ, gI_sJ, gI_sL, gI_sQ, gL_sI, gL_sQ, gL_sJ, gQ_sI, gQ_sL, gQ_sJ, gN_sI, gN_sL, gN_sQ, gN_sJ, E_b2_0, E_c_0, E_dup_0, E_dup_1, E_getI_0, E_getR_0, E_iald_0, E_iast_0, E_inc_a, E_inc_b, E_jg_0, E_jl_0, E_jmp_0, E_jp_0, E_ldI_a, E_ldI_b, E_ldR_a, E_ldR_b, E_putI_0, E_rV_0, E_stI_0, aL_30, am_nl, am_ok, am_set, cC_30, cC_4, rR_500, kX4_add, h0, h3, h4, hn, nI_1]
    refine hQ 0 _ ((frm.rf.si rfl).si rfl) (by omega) (Or.inl rfl) hg ?_ (fun j hj => ?_)
    · simp only [gI_sI, gL_sL, gQ_sQ, gI_sJ, gI_sL, gI_sQ, gL_sI, gL_sQ, gL_sJ, gQ_sI, gQ_sL, gQ_sJ, gN_sI, gN_sL, gN_sQ, gN_sJ, Nat.reduceLT, Nat.reduceEqDiff, reduceIte, Nat.reduceAdd, Nat.reduceLeDiff, Nat.reduceSub, Bool.false_eq_true, if_true, if_false, ite_true, ite_false, List.length_cons, List.length_nil, Nat.zero_add, Nat.add_zero, and_true, true_and, true_or, or_true, and_self, Nat.le_refl, Nat.lt_irrefl]
    · simp only [gI_sI, gL_sL, gQ_sQ, gI_sJ, gI_sL, gI_sQ, gL_sI, gL_sQ, gL_sJ, gQ_sI, gQ_sL, gQ_sJ, gN_sI, gN_sL, gN_sQ, gN_sJ, Nat.reduceLT, Nat.reduceEqDiff, reduceIte, Nat.reduceAdd, Nat.reduceLeDiff, Nat.reduceSub, Bool.false_eq_true, if_true, if_false, ite_true, ite_false, List.length_cons, List.length_nil, Nat.zero_add, Nat.add_zero, and_true, true_and, true_or, or_true, and_self, Nat.le_refl, Nat.lt_irrefl]
      rw [if_neg (show ¬ j < 0 by omega)]
      by_cases e : j = 0
      · rw [if_pos e, if_pos e]
      · rw [if_neg e, if_neg e, hT j, if_pos (by omega)]
  | succ a ih =>
    intro σ ha hn hT hg hQ
    rw [hX4_add 23]
    have h0 : 0 < nI (a + 1) := (nI_lt (a := 0) (by omega) (by omega) : nI 0 < nI (a + 1))
    have h3 : vp_in (nI (a + 1)) 60 := vp_in_nI (by omega) (by omega)
    have h4 : (nI (a + 1)).toNatClampNeg = a + 1 := nI_clamp (by omega)
    have h5 : vp_in (nI a) 60 := vp_in_nI (by omega) (by omega)
    have h6 : (nI a).toNatClampNeg = a := nI_clamp (by omega)
    have eT : gI σ 30 a = T a := by rw [hT a, if_neg (by omega)]
    by_cases q : t < T a
    · simp only [am_run_s, bt, lf, am_in, am_ar, am_fit, am_ld, am_ct, Nat.reduceLT, Nat.reduceEqDiff, reduceIte, Nat.reduceAdd, Nat.reduceLeDiff, Nat.reduceSub, Bool.false_eq_true, if_true, if_false, ite_true, ite_false, List.length_cons, List.length_nil, Nat.zero_add, Nat.add_zero, and_true, true_and, true_or, or_true, and_self, Nat.le_refl, Nat.lt_irrefl, gI_sI, gL_sL, gQ_sQ, gI_sJ, gI_sL, gI_sQ, gL_sI, gL_sQ, gL_sJ, gQ_sI, gQ_sL, gQ_sJ, gN_sI, gN_sL, gN_sQ, gN_sJ, E_b2_0, E_c_0, E_dup_0, E_dup_1, E_getI_0, E_getR_0, E_iald_0, E_iast_0, E_inc_a, E_inc_b, E_jg_0, E_jl_0, E_jmp_0, E_jp_0, E_ldI_a, E_ldI_b, E_ldR_a, E_ldR_b, E_putI_0, E_rV_0, E_stI_0, aL_30, am_nl, am_ok, am_set, cC_30, cC_4, rR_500, kX4_add, h0, h3, h4, h5, h6, nI_m1, pk_m1, eT, q]
      have f0 : frm PNX σ (sI σ 30 (a + 1) (T a)) := frm.rf.si rfl
      refine ih _ (by omega) (by rw [← hn]; rfl) (fun j => ?_) (fun j h1 h2 => ?_) (fun p σ' f1 => hQ p σ' (f0.tr f1))
      · simp only [gI_sI, gL_sL, gQ_sQ, gI_sJ, gI_sL, gI_sQ, gL_sI, gL_sQ, gL_sJ, gQ_sI, gQ_sL, gQ_sJ, gN_sI, gN_sL, gN_sQ, gN_sJ, Nat.reduceLT, Nat.reduceEqDiff, reduceIte, Nat.reduceAdd, Nat.reduceLeDiff, Nat.reduceSub, Bool.false_eq_true, if_true, if_false, ite_true, ite_false, List.length_cons, List.length_nil, Nat.zero_add, Nat.add_zero, and_true, true_and, true_or, or_true, and_self, Nat.le_refl, Nat.lt_irrefl]
        by_cases e : j = a + 1
        · rw [if_pos e, if_pos (by omega), e]; rfl
        · rw [if_neg e, hT j]
          by_cases e2 : a + 1 < j ∧ j ≤ c
          · rw [if_pos e2, if_pos (by omega)]
          · rw [if_neg e2, if_neg (by omega)]
      · by_cases e : j = a
        · rw [e]; exact q
        · exact hg j (by omega) h2
    · simp only [am_run_s, bt, lf, am_in, am_ar, am_fit, am_ld, am_ct, Nat.reduceLT, Nat.reduceEqDiff, reduceIte, Nat.reduceAdd, Nat.reduceLeDiff, Nat.reduceSub, Bool.false_eq_true, if_true, if_false, ite_true, ite_false, List.length_cons, List.length_nil, Nat.zero_add, Nat.add_zero, and_true, true_and, true_or, or_true, and_self, Nat.le_refl, Nat.lt_irrefl, gI_sI, gL_sL, gQ_sQ, gI_sJ, gI_sL, gI_sQ, gL_sI, gL_sQ, gL_sJ, gQ_sI, gQ_sL, gQ_sJ, gN_sI, gN_sL, gN_sQ, gN_sJ, E_b2_0, E_c_0, E_dup_0, E_dup_1, E_getI_0, E_getR_0, E_iald_0, E_iast_0, E_inc_a, E_inc_b, E_jg_0, E_jl_0, E_jmp_0, E_jp_0, E_ldI_a, E_ldI_b, E_ldR_a, E_ldR_b, E_putI_0, E_rV_0, E_stI_0, aL_30, am_nl, am_ok, am_set, cC_30, cC_4, rR_500, kX4_add, h0, h3, h4, h5, h6, nI_m1, eT, q, hn, nI_1]
      refine hQ (a + 1) _ ((frm.rf.si rfl).si rfl) ha (Or.inr q) hg ?_ (fun j hj => ?_)
      · simp only [gI_sI, gL_sL, gQ_sQ, gI_sJ, gI_sL, gI_sQ, gL_sI, gL_sQ, gL_sJ, gQ_sI, gQ_sL, gQ_sJ, gN_sI, gN_sL, gN_sQ, gN_sJ, Nat.reduceLT, Nat.reduceEqDiff, reduceIte, Nat.reduceAdd, Nat.reduceLeDiff, Nat.reduceSub, Bool.false_eq_true, if_true, if_false, ite_true, ite_false, List.length_cons, List.length_nil, Nat.zero_add, Nat.add_zero, and_true, true_and, true_or, or_true, and_self, Nat.le_refl, Nat.lt_irrefl]
      · simp only [gI_sI, gL_sL, gQ_sQ, gI_sJ, gI_sL, gI_sQ, gL_sI, gL_sQ, gL_sJ, gQ_sI, gQ_sL, gQ_sJ, gN_sI, gN_sL, gN_sQ, gN_sJ, Nat.reduceLT, Nat.reduceEqDiff, reduceIte, Nat.reduceAdd, Nat.reduceLeDiff, Nat.reduceSub, Bool.false_eq_true, if_true, if_false, ite_true, ite_false, List.length_cons, List.length_nil, Nat.zero_add, Nat.add_zero, and_true, true_and, true_or, or_true, and_self, Nat.le_refl, Nat.lt_irrefl]
        by_cases e : j = a + 1
        · rw [if_pos e, if_neg (by omega), if_pos e]
        · rw [if_neg e, hT j]
          by_cases e2 : j < a + 1
          · rw [if_pos e2, if_neg (by omega)]
          · rw [if_neg e2, if_neg e, if_pos (by omega)]
theorem c_add {t : Int32} {c : Nat} {σ : HS} {Q : PO} (hc : c < 60) (hn : gI σ 501 0 = nI c)
    (hQ : ∀ (p : Nat) (σ' : HS), frm PNX σ σ' → p ≤ c → (p = 0 ∨ ¬ t < gI σ 30 (p - 1)) → (∀ j, p ≤ j → j < c → t < gI σ 30 j) → gI σ' 501 0 = nI (c + 1) → (∀ j, j ≤ c → gI σ' 30 j = if j < p then gI σ 30 j else if j = p then t else gI σ 30 (j - 1)) → Q none σ') :
    MM 31 [.inr (.inr (some (4, 0))), .inl t] σ Q := by
  rw [eX4_add 8]
  have e60 : (60 : Int32) = nI 60 := by decide
  have h0 : nI c < 60 := by rw [e60]; exact nI_lt hc (by omega)
  simp only [am_run_s, bt, lf, am_in, am_ar, am_fit, am_ld, am_ct, Nat.reduceLT, Nat.reduceEqDiff, reduceIte, Nat.reduceAdd, Nat.reduceLeDiff, Nat.reduceSub, Bool.false_eq_true, if_true, if_false, ite_true, ite_false, List.length_cons, List.length_nil, Nat.zero_add, Nat.add_zero, and_true, true_and, true_or, or_true, and_self, Nat.le_refl, Nat.lt_irrefl, gI_sI, gL_sL, gQ_sQ, gI_sJ, gI_sL, gI_sQ, gL_sI, gL_sQ, gL_sJ, gQ_sI, gQ_sL, gQ_sJ, gN_sI, gN_sL, gN_sQ, gN_sJ, E_b2_0, E_c_0, E_dup_0, E_dup_1, E_getI_0, E_getR_0, E_iald_0, E_iast_0, E_inc_a, E_inc_b, E_jg_0, E_jl_0, E_jmp_0, E_jp_0, E_ldI_a, E_ldI_b, E_ldR_a, E_ldR_b, E_putI_0, E_rV_0, E_stI_0, aL_30, am_nl, am_ok, am_set, cC_30, cC_4, rR_500, kX4_add, hn, h0]
  refine l_add (T := gI σ 30) hc c σ (by omega) hn (fun j => by rw [if_neg (by omega)]) (fun j h1 h2 => absurd h2 (by omega)) hQ
theorem api_disturb (t : Int32) : apiI 110 180 [.inl t] := by
  intro k σ hk h
  obtain ⟨tk, ht1, ht2, ht3⟩ := h.2.2.1.2.2.1
  obtain ⟨c, hc, n1, n2, n3, n4, n5, n6⟩ := h.2.2.1.2.2.2.2.2.2.2.2.1
  rw [eX11_disturb 32]
  by_cases h0 : t < nI tk
  · simp only [am_run_s, bt, lf, am_in, am_ar, am_fit, am_ld, am_ct, Nat.reduceLT, Nat.reduceEqDiff, reduceIte, Nat.reduceAdd, Nat.reduceLeDiff, Nat.reduceSub, Bool.false_eq_true, if_true, if_false, ite_true, ite_false, List.length_cons, List.length_nil, Nat.zero_add, Nat.add_zero, and_true, true_and, true_or, or_true, and_self, Nat.le_refl, Nat.lt_irrefl, gI_sI, gL_sL, gQ_sQ, gI_sJ, gI_sL, gI_sQ, gL_sI, gL_sQ, gL_sJ, gQ_sI, gQ_sL, gQ_sJ, gN_sI, gN_sL, gN_sQ, gN_sJ, E_cV_a, E_cV_b, E_c_0, E_getI_0, E_getR_0, E_jl_0, E_jz_0, E_kk, E_ldI_a, E_ldI_b, E_ldR_a, E_ldR_b, E_rI_0, am_cc, am_pop, am_rt, cC_11, cC_4, cC_9, rR_1002, rR_1204, kX11_disturb, ht1, h0, ↓s_refuse7]
    rw [eX12_disturb 28]
    simp only [am_run_s, bt, lf, am_in, am_ar, am_fit, am_ld, am_ct, Nat.reduceLT, Nat.reduceEqDiff, reduceIte, Nat.reduceAdd, Nat.reduceLeDiff, Nat.reduceSub, Bool.false_eq_true, if_true, if_false, ite_true, ite_false, List.length_cons, List.length_nil, Nat.zero_add, Nat.add_zero, and_true, true_and, true_or, or_true, and_self, Nat.le_refl, Nat.lt_irrefl, gI_sI, gL_sL, gQ_sQ, gI_sJ, gI_sL, gI_sQ, gL_sI, gL_sQ, gL_sJ, gQ_sI, gQ_sL, gQ_sJ, gN_sI, gN_sL, gN_sQ, gN_sJ, E_b2_0, E_cV_a, E_cV_b, E_c_0, E_dup_0, E_dup_1, E_getI_0, E_getR_0, E_iast_0, E_je_0, E_jl_0, E_jz_0, E_kk, E_ldI_a, E_ldI_b, E_ldR_a, E_ldR_b, E_putI_0, E_rI_0, aL_54, am_cc, am_pop, am_rt, cC_12, cC_54, rR_1351, kX12_disturb, ht2, h0, ↓s_no7]
    exact ⟨⟨_, rfl, rfl⟩, h.refuse⟩
  simp only [am_run_s, bt, lf, am_in, am_ar, am_fit, am_ld, am_ct, Nat.reduceLT, Nat.reduceEqDiff, reduceIte, Nat.reduceAdd, Nat.reduceLeDiff, Nat.reduceSub, Bool.false_eq_true, if_true, if_false, ite_true, ite_false, List.length_cons, List.length_nil, Nat.zero_add, Nat.add_zero, and_true, true_and, true_or, or_true, and_self, Nat.le_refl, Nat.lt_irrefl, gI_sI, gL_sL, gQ_sQ, gI_sJ, gI_sL, gI_sQ, gL_sI, gL_sQ, gL_sJ, gQ_sI, gQ_sL, gQ_sJ, gN_sI, gN_sL, gN_sQ, gN_sJ, E_cV_a, E_cV_b, E_c_0, E_getI_0, E_getR_0, E_jl_0, E_jz_0, E_kk, E_ldI_a, E_ldI_b, E_ldR_a, E_ldR_b, E_rI_0, am_cc, am_pop, am_rt, cC_11, cC_4, cC_9, rR_1002, rR_1204, kX11_disturb, ht1, h0]
  refine c_isTold n1 hc (fun q => ?_) (fun q => ?_)
  · simp only [am_run_s, bt, lf, am_in, am_ar, am_fit, am_ld, am_ct, Nat.reduceLT, Nat.reduceEqDiff, reduceIte, Nat.reduceAdd, Nat.reduceLeDiff, Nat.reduceSub, Bool.false_eq_true, if_true, if_false, ite_true, ite_false, List.length_cons, List.length_nil, Nat.zero_add, Nat.add_zero, and_true, true_and, true_or, or_true, and_self, Nat.le_refl, Nat.lt_irrefl, gI_sI, gL_sL, gQ_sQ, gI_sJ, gI_sL, gI_sQ, gL_sI, gL_sQ, gL_sJ, gQ_sI, gQ_sL, gQ_sJ, gN_sI, gN_sL, gN_sQ, gN_sJ, E_cV_a, E_cV_b, E_c_0, E_getI_0, E_getR_0, E_jl_0, E_jz_0, E_kk, E_ldI_a, E_ldI_b, E_ldR_a, E_ldR_b, E_rI_0, am_cc, am_pop, am_rt, cC_11, cC_4, cC_9, rR_1002, rR_1204, kX11_disturb, i01, ↓s_refuse7]
    rw [eX12_disturb 28]
    simp only [am_run_s, bt, lf, am_in, am_ar, am_fit, am_ld, am_ct, Nat.reduceLT, Nat.reduceEqDiff, reduceIte, Nat.reduceAdd, Nat.reduceLeDiff, Nat.reduceSub, Bool.false_eq_true, if_true, if_false, ite_true, ite_false, List.length_cons, List.length_nil, Nat.zero_add, Nat.add_zero, and_true, true_and, true_or, or_true, and_self, Nat.le_refl, Nat.lt_irrefl, gI_sI, gL_sL, gQ_sQ, gI_sJ, gI_sL, gI_sQ, gL_sI, gL_sQ, gL_sJ, gQ_sI, gQ_sL, gQ_sJ, gN_sI, gN_sL, gN_sQ, gN_sJ, E_b2_0, E_cV_a, E_cV_b, E_c_0, E_dup_0, E_dup_1, E_getI_0, E_getR_0, E_iast_0, E_je_0, E_jl_0, E_jz_0, E_kk, E_ldI_a, E_ldI_b, E_ldR_a, E_ldR_b, E_putI_0, E_rI_0, aL_54, am_cc, am_pop, am_rt, cC_12, cC_54, rR_1351, kX12_disturb, ht2, h0]
    refine c_isDist (c := c) n2 hc (fun _ => ?_) (fun q2 => ?_)
    · simp only [am_run_s, bt, lf, am_in, am_ar, am_fit, am_ld, am_ct, Nat.reduceLT, Nat.reduceEqDiff, reduceIte, Nat.reduceAdd, Nat.reduceLeDiff, Nat.reduceSub, Bool.false_eq_true, if_true, if_false, ite_true, ite_false, List.length_cons, List.length_nil, Nat.zero_add, Nat.add_zero, and_true, true_and, true_or, or_true, and_self, Nat.le_refl, Nat.lt_irrefl, gI_sI, gL_sL, gQ_sQ, gI_sJ, gI_sL, gI_sQ, gL_sI, gL_sQ, gL_sJ, gQ_sI, gQ_sL, gQ_sJ, gN_sI, gN_sL, gN_sQ, gN_sJ, E_b2_0, E_cV_a, E_cV_b, E_c_0, E_dup_0, E_dup_1, E_getI_0, E_getR_0, E_iast_0, E_je_0, E_jl_0, E_jz_0, E_kk, E_ldI_a, E_ldI_b, E_ldR_a, E_ldR_b, E_putI_0, E_rI_0, aL_54, am_cc, am_pop, am_rt, cC_12, cC_54, rR_1351, kX12_disturb, i01, ↓s_no7]
      exact ⟨⟨_, rfl, rfl⟩, h.refuse⟩
    · obtain ⟨j, j1, j2⟩ := q
      obtain ⟨i, i1, i2⟩ := n5 j j1
      exact absurd ⟨i, i1, i2.trans j2⟩ q2
  · have q2 : ¬ ∃ j, j < c ∧ gI σ 54 j = t := by
      rintro ⟨i, i1, i2⟩
      obtain ⟨j, j1, j2⟩ := n6 i i1
      exact q ⟨j, j1, j2.trans i2⟩
    have e60 : (60 : Int32) = nI 60 := by decide
    by_cases hf : c < 60
    · have h1 : nI c < 60 := by rw [e60]; exact nI_lt hf (by omega)
      simp only [am_run_s, bt, lf, am_in, am_ar, am_fit, am_ld, am_ct, Nat.reduceLT, Nat.reduceEqDiff, reduceIte, Nat.reduceAdd, Nat.reduceLeDiff, Nat.reduceSub, Bool.false_eq_true, if_true, if_false, ite_true, ite_false, List.length_cons, List.length_nil, Nat.zero_add, Nat.add_zero, and_true, true_and, true_or, or_true, and_self, Nat.le_refl, Nat.lt_irrefl, gI_sI, gL_sL, gQ_sQ, gI_sJ, gI_sL, gI_sQ, gL_sI, gL_sQ, gL_sJ, gQ_sI, gQ_sL, gQ_sJ, gN_sI, gN_sL, gN_sQ, gN_sJ, E_cV_a, E_cV_b, E_c_0, E_getI_0, E_getR_0, E_jl_0, E_jz_0, E_kk, E_ldI_a, E_ldI_b, E_ldR_a, E_ldR_b, E_rI_0, am_cc, am_pop, am_rt, cC_11, cC_4, cC_9, rR_1002, rR_1204, kX11_disturb, n1, h1]
      refine c_add hf n1 (fun p σ1 f1 p1 p2 p3 p4 p5 => ?_)
      simp only [am_run_s, bt, lf, am_in, am_ar, am_fit, am_ld, am_ct, Nat.reduceLT, Nat.reduceEqDiff, reduceIte, Nat.reduceAdd, Nat.reduceLeDiff, Nat.reduceSub, Bool.false_eq_true, if_true, if_false, ite_true, ite_false, List.length_cons, List.length_nil, Nat.zero_add, Nat.add_zero, and_true, true_and, true_or, or_true, and_self, Nat.le_refl, Nat.lt_irrefl, gI_sI, gL_sL, gQ_sQ, gI_sJ, gI_sL, gI_sQ, gL_sI, gL_sQ, gL_sJ, gQ_sI, gQ_sL, gQ_sJ, gN_sI, gN_sL, gN_sQ, gN_sJ, E_cV_a, E_cV_b, E_c_0, E_getI_0, E_getR_0, E_jl_0, E_jz_0, E_kk, E_ldI_a, E_ldI_b, E_ldR_a, E_ldR_b, E_rI_0, am_cc, am_pop, am_rt, cC_11, cC_4, cC_9, rR_1002, rR_1204, kX11_disturb, p4]
      have m2 : gI σ1 1342 0 = nI tk := by rw [f1.gi rfl]; exact ht2
      have m3 : gI σ1 1352 0 = nI c := by rw [f1.gi rfl]; exact n2
      have m4 : ∀ i, gI σ1 54 i = gI σ 54 i := fun i => f1.gi rfl
      rw [eX12_disturb 28]
      simp only [am_run_s, bt, lf, am_in, am_ar, am_fit, am_ld, am_ct, Nat.reduceLT, Nat.reduceEqDiff, reduceIte, Nat.reduceAdd, Nat.reduceLeDiff, Nat.reduceSub, Bool.false_eq_true, if_true, if_false, ite_true, ite_false, List.length_cons, List.length_nil, Nat.zero_add, Nat.add_zero, and_true, true_and, true_or, or_true, and_self, Nat.le_refl, Nat.lt_irrefl, gI_sI, gL_sL, gQ_sQ, gI_sJ, gI_sL, gI_sQ, gL_sI, gL_sQ, gL_sJ, gQ_sI, gQ_sL, gQ_sJ, gN_sI, gN_sL, gN_sQ, gN_sJ, E_b2_0, E_cV_a, E_cV_b, E_c_0, E_dup_0, E_dup_1, E_getI_0, E_getR_0, E_iast_0, E_je_0, E_jl_0, E_jz_0, E_kk, E_ldI_a, E_ldI_b, E_ldR_a, E_ldR_b, E_putI_0, E_rI_0, aL_54, am_cc, am_pop, am_rt, cC_12, cC_54, rR_1351, kX12_disturb, m2, h0]
      refine c_isDist (c := c) m3 hc (fun q3 => ?_) (fun _ => ?_)
      · obtain ⟨i, i1, i2⟩ := q3
        exact absurd ⟨i, i1, (m4 i).symm.trans i2⟩ q2
      · have h2 : ¬ nI c = 60 := by
          rw [e60]
          exact fun z => absurd ((nI_eq (by omega) (by omega)).mp z) (by omega)
        have h3 : vp_in (nI c) 60 := vp_in_nI hf (by omega)
        have h4 : (nI c).toNatClampNeg = c := nI_clamp (by omega)
        simp only [am_run_s, bt, lf, am_in, am_ar, am_fit, am_ld, am_ct, Nat.reduceLT, Nat.reduceEqDiff, reduceIte, Nat.reduceAdd, Nat.reduceLeDiff, Nat.reduceSub, Bool.false_eq_true, if_true, if_false, ite_true, ite_false, List.length_cons, List.length_nil, Nat.zero_add, Nat.add_zero, and_true, true_and, true_or, or_true, and_self, Nat.le_refl, Nat.lt_irrefl, gI_sI, gL_sL, gQ_sQ, gI_sJ, gI_sL, gI_sQ, gL_sI, gL_sQ, gL_sJ, gQ_sI, gQ_sL, gQ_sJ, gN_sI, gN_sL, gN_sQ, gN_sJ, E_b2_0, E_cV_a, E_cV_b, E_c_0, E_dup_0, E_dup_1, E_getI_0, E_getR_0, E_iast_0, E_je_0, E_jl_0, E_jz_0, E_kk, E_ldI_a, E_ldI_b, E_ldR_a, E_ldR_b, E_putI_0, E_rI_0, aL_54, am_cc, am_pop, am_rt, cC_12, cC_54, rR_1351, kX12_disturb, m3, h2, h3, h4, nI_1]
        have hne : ∀ j, j < c → gI σ 30 j ≠ t := fun j j1 j2 => q ⟨j, j1, j2⟩
        have hlo : ∀ j, j < p → gI σ 30 j < t := by
          intro j hj
          have hp := hne (p - 1) (by omega)
          rcases p2 with p2 | p2
          · omega
          · have a1 : gI σ 30 (p - 1) < t := by
              rw [Int32.lt_iff_toInt_lt] at p2 ⊢
              have : (gI σ 30 (p - 1)).toInt ≠ t.toInt := fun e => hp (Int32.toInt_inj.mp e)
              omega
            by_cases e : j = p - 1
            · rw [e]; exact a1
            · have := n4 j (p - 1) (by omega) (by omega)
              rw [Int32.lt_iff_toInt_lt] at this a1 ⊢
              omega
        have hv : v_noi (sI (sI σ1 54 c t) 1352 0 (nI (c + 1))) (sI (sI σ1 54 c t) 1352 0 (nI (c + 1))) := by
          refine ⟨c + 1, by omega, by simp only [gI_sI, gL_sL, gQ_sQ, gI_sJ, gI_sL, gI_sQ, gL_sI, gL_sQ, gL_sJ, gQ_sI, gQ_sL, gQ_sJ, gN_sI, gN_sL, gN_sQ, gN_sJ, Nat.reduceLT, Nat.reduceEqDiff, reduceIte, Nat.reduceAdd, Nat.reduceLeDiff, Nat.reduceSub, Bool.false_eq_true, if_true, if_false, ite_true, ite_false, List.length_cons, List.length_nil, Nat.zero_add, Nat.add_zero, and_true, true_and, true_or, or_true, and_self, Nat.le_refl, Nat.lt_irrefl]; exact p4, by simp only [gI_sI, gL_sL, gQ_sQ, gI_sJ, gI_sL, gI_sQ, gL_sI, gL_sQ, gL_sJ, gQ_sI, gQ_sL, gQ_sJ, gN_sI, gN_sL, gN_sQ, gN_sJ, Nat.reduceLT, Nat.reduceEqDiff, reduceIte, Nat.reduceAdd, Nat.reduceLeDiff, Nat.reduceSub, Bool.false_eq_true, if_true, if_false, ite_true, ite_false, List.length_cons, List.length_nil, Nat.zero_add, Nat.add_zero, and_true, true_and, true_or, or_true, and_self, Nat.le_refl, Nat.lt_irrefl], ?_, ?_, ?_, ?_⟩
          · intro j hj
            simp only [gI_sI, gL_sL, gQ_sQ, gI_sJ, gI_sL, gI_sQ, gL_sI, gL_sQ, gL_sJ, gQ_sI, gQ_sL, gQ_sJ, gN_sI, gN_sL, gN_sQ, gN_sJ, Nat.reduceLT, Nat.reduceEqDiff, reduceIte, Nat.reduceAdd, Nat.reduceLeDiff, Nat.reduceSub, Bool.false_eq_true, if_true, if_false, ite_true, ite_false, List.length_cons, List.length_nil, Nat.zero_add, Nat.add_zero, and_true, true_and, true_or, or_true, and_self, Nat.le_refl, Nat.lt_irrefl]
            rw [f1.gi (f := 1004) rfl, p5 j (by omega), ht1]
            by_cases e1 : j < p
            · rw [if_pos e1]; rw [← ht1]; exact n3 j (by omega)
            · rw [if_neg e1]
              by_cases e2 : j = p
              · rw [if_pos e2]; exact h0
              · rw [if_neg e2, ← ht1]; exact n3 (j - 1) (by omega)
          · intro i j hij hj
            simp only [gI_sI, gL_sL, gQ_sQ, gI_sJ, gI_sL, gI_sQ, gL_sI, gL_sQ, gL_sJ, gQ_sI, gQ_sL, gQ_sJ, gN_sI, gN_sL, gN_sQ, gN_sJ, Nat.reduceLT, Nat.reduceEqDiff, reduceIte, Nat.reduceAdd, Nat.reduceLeDiff, Nat.reduceSub, Bool.false_eq_true, if_true, if_false, ite_true, ite_false, List.length_cons, List.length_nil, Nat.zero_add, Nat.add_zero, and_true, true_and, true_or, or_true, and_self, Nat.le_refl, Nat.lt_irrefl]
            rw [p5 i (by omega), p5 j (by omega)]
            by_cases e1 : i < p
            · rw [if_pos e1]
              by_cases e2 : j < p
              · rw [if_pos e2]; exact n4 i j hij (by omega)
              · rw [if_neg e2]
                by_cases e3 : j = p
                · rw [if_pos e3]; exact hlo i e1
                · rw [if_neg e3]
                  have a1 := hlo i e1
                  have a2 := p3 (j - 1) (by omega) (by omega)
                  rw [Int32.lt_iff_toInt_lt] at a1 a2 ⊢
                  omega
            · rw [if_neg e1, if_neg (show ¬ j < p by omega), if_neg (show ¬ j = p by omega)]
              by_cases e3 : i = p
              · rw [if_pos e3]; exact p3 (j - 1) (by omega) (by omega)
              · rw [if_neg e3]; exact n4 (i - 1) (j - 1) (by omega) (by omega)
          · intro j hj
            simp only [gI_sI, gL_sL, gQ_sQ, gI_sJ, gI_sL, gI_sQ, gL_sI, gL_sQ, gL_sJ, gQ_sI, gQ_sL, gQ_sJ, gN_sI, gN_sL, gN_sQ, gN_sJ, Nat.reduceLT, Nat.reduceEqDiff, reduceIte, Nat.reduceAdd, Nat.reduceLeDiff, Nat.reduceSub, Bool.false_eq_true, if_true, if_false, ite_true, ite_false, List.length_cons, List.length_nil, Nat.zero_add, Nat.add_zero, and_true, true_and, true_or, or_true, and_self, Nat.le_refl, Nat.lt_irrefl]
            rw [p5 j (by omega)]
            by_cases e1 : j < p
            · rw [if_pos e1]
              obtain ⟨i, i1, i2⟩ := n5 j (by omega)
              exact ⟨i, by omega, by rw [if_neg (by omega), m4]; exact i2⟩
            · rw [if_neg e1]
              by_cases e2 : j = p
              · rw [if_pos e2]; exact ⟨c, by omega, by rw [if_pos rfl]⟩
              · rw [if_neg e2]
                obtain ⟨i, i1, i2⟩ := n5 (j - 1) (by omega)
                exact ⟨i, by omega, by rw [if_neg (by omega), m4]; exact i2⟩
          · intro i hi
            simp only [gI_sI, gL_sL, gQ_sQ, gI_sJ, gI_sL, gI_sQ, gL_sI, gL_sQ, gL_sJ, gQ_sI, gQ_sL, gQ_sJ, gN_sI, gN_sL, gN_sQ, gN_sJ, Nat.reduceLT, Nat.reduceEqDiff, reduceIte, Nat.reduceAdd, Nat.reduceLeDiff, Nat.reduceSub, Bool.false_eq_true, if_true, if_false, ite_true, ite_false, List.length_cons, List.length_nil, Nat.zero_add, Nat.add_zero, and_true, true_and, true_or, or_true, and_self, Nat.le_refl, Nat.lt_irrefl]
            by_cases e : i = c
            · refine ⟨p, by omega, ?_⟩
              rw [if_pos e, p5 p p1, if_neg (by omega), if_pos rfl]
            · rw [if_neg e, m4]
              obtain ⟨j, j1, j2⟩ := n6 i (by omega)
              by_cases e1 : j < p
              · exact ⟨j, by omega, by rw [p5 j (by omega), if_pos e1]; exact j2⟩
              · exact ⟨j + 1, by omega, by rw [p5 (j + 1) (by omega), if_neg (by omega), if_neg (by omega)]; exact j2⟩
        refine ⟨⟨_, rfl, rfl⟩, ?_⟩
        obtain ⟨J, rfl⟩ := f1.el
        have hC := h.2.2.1.up
        exact ⟨h.1, h.2.1, ⟨hC.1, hC.2.1, hC.2.2.1, hC.2.2.2.1, hC.2.2.2.2.1, hC.2.2.2.2.2.1, hC.2.2.2.2.2.2.1, hC.2.2.2.2.2.2.2.1, hv, hC.2.2.2.2.2.2.2.2.2⟩, h.2.2.2⟩
    · have e : c = 60 := by omega
      subst e
      have h1 : ¬ nI 60 < 60 := by decide
      simp only [am_run_s, bt, lf, am_in, am_ar, am_fit, am_ld, am_ct, Nat.reduceLT, Nat.reduceEqDiff, reduceIte, Nat.reduceAdd, Nat.reduceLeDiff, Nat.reduceSub, Bool.false_eq_true, if_true, if_false, ite_true, ite_false, List.length_cons, List.length_nil, Nat.zero_add, Nat.add_zero, and_true, true_and, true_or, or_true, and_self, Nat.le_refl, Nat.lt_irrefl, gI_sI, gL_sL, gQ_sQ, gI_sJ, gI_sL, gI_sQ, gL_sI, gL_sQ, gL_sJ, gQ_sI, gQ_sL, gQ_sJ, gN_sI, gN_sL, gN_sQ, gN_sJ, E_cV_a, E_cV_b, E_c_0, E_getI_0, E_getR_0, E_jl_0, E_jz_0, E_kk, E_ldI_a, E_ldI_b, E_ldR_a, E_ldR_b, E_rI_0, am_cc, am_pop, am_rt, cC_11, cC_4, cC_9, rR_1002, rR_1204, kX11_disturb, n1, h1, ↓s_refuse8]
      rw [eX12_disturb 28]
      simp only [am_run_s, bt, lf, am_in, am_ar, am_fit, am_ld, am_ct, Nat.reduceLT, Nat.reduceEqDiff, reduceIte, Nat.reduceAdd, Nat.reduceLeDiff, Nat.reduceSub, Bool.false_eq_true, if_true, if_false, ite_true, ite_false, List.length_cons, List.length_nil, Nat.zero_add, Nat.add_zero, and_true, true_and, true_or, or_true, and_self, Nat.le_refl, Nat.lt_irrefl, gI_sI, gL_sL, gQ_sQ, gI_sJ, gI_sL, gI_sQ, gL_sI, gL_sQ, gL_sJ, gQ_sI, gQ_sL, gQ_sJ, gN_sI, gN_sL, gN_sQ, gN_sJ, E_b2_0, E_cV_a, E_cV_b, E_c_0, E_dup_0, E_dup_1, E_getI_0, E_getR_0, E_iast_0, E_je_0, E_jl_0, E_jz_0, E_kk, E_ldI_a, E_ldI_b, E_ldR_a, E_ldR_b, E_putI_0, E_rI_0, aL_54, am_cc, am_pop, am_rt, cC_12, cC_54, rR_1351, kX12_disturb, ht2, h0]
      refine c_isDist (c := 60) n2 (by omega) (fun q3 => absurd q3 q2) (fun _ => ?_)
      have h2 : nI 60 = 60 := by decide
      simp only [am_run_s, bt, lf, am_in, am_ar, am_fit, am_ld, am_ct, Nat.reduceLT, Nat.reduceEqDiff, reduceIte, Nat.reduceAdd, Nat.reduceLeDiff, Nat.reduceSub, Bool.false_eq_true, if_true, if_false, ite_true, ite_false, List.length_cons, List.length_nil, Nat.zero_add, Nat.add_zero, and_true, true_and, true_or, or_true, and_self, Nat.le_refl, Nat.lt_irrefl, gI_sI, gL_sL, gQ_sQ, gI_sJ, gI_sL, gI_sQ, gL_sI, gL_sQ, gL_sJ, gQ_sI, gQ_sL, gQ_sJ, gN_sI, gN_sL, gN_sQ, gN_sJ, E_b2_0, E_cV_a, E_cV_b, E_c_0, E_dup_0, E_dup_1, E_getI_0, E_getR_0, E_iast_0, E_je_0, E_jl_0, E_jz_0, E_kk, E_ldI_a, E_ldI_b, E_ldR_a, E_ldR_b, E_putI_0, E_rI_0, aL_54, am_cc, am_pop, am_rt, cC_12, cC_54, rR_1351, kX12_disturb, n2, h2, ↓s_no8]
      exact ⟨⟨_, rfl, rfl⟩, h.refuse⟩
