/-! ===== reading: the class ===== -/
def PRD (f : Nat) : Bool := Nat.beq f 602 || Nat.beq f 603 || Nat.beq f 607 || Nat.beq f 609 || Nat.beq f 610 || Nat.beq f 611
def RX (σ : HS) (s : RS) : Prop := gI σ 603 0 = nI s.1 ∧ gI σ 602 0 = s.2.1 ∧ gI σ 610 0 = nI s.2.2.1 ∧ gI σ 611 0 = s.2.2.2.1 ∧ gI σ 607 0 = nI s.2.2.2.2
theorem s_faultHere (v : Int32) (σ : HS) (Q : PO) : MM 45 [.inr (.inr (some (5, 0))), .inl v] σ Q ↔ Q (some (.inl 0)) (sI σ 602 0 v) := by
  rw [eX5_faultHere 10]
  simp only [am_run_s, bt, lf, am_in, am_ar, am_fit, am_ld, am_ct, Nat.reduceLT, Nat.reduceEqDiff, reduceIte, Nat.reduceAdd, Nat.reduceLeDiff, Nat.reduceSub, Bool.false_eq_true, if_true, if_false, ite_true, ite_false, List.length_cons, List.length_nil, Nat.zero_add, Nat.add_zero, and_true, true_and, true_or, or_true, and_self, Nat.le_refl, Nat.lt_irrefl, gI_sI, gL_sL, gQ_sQ, gI_sJ, gI_sL, gI_sQ, gL_sI, gL_sQ, gL_sJ, gQ_sI, gQ_sL, gQ_sJ, gN_sI, gN_sL, gN_sQ, gN_sJ, E_c_0, E_ldI_a, E_ldI_b, E_ldR_a, E_ldR_b, E_putI_0, E_rZ_0, cC_5, kX5_faultHere, am_b0]
theorem s_faultAtLatest (v : Int32) (σ : HS) (Q : PO) : MM 46 [.inr (.inr (some (5, 0))), .inl v] σ Q ↔ Q (some (.inl 0)) (sI (sI σ 603 0 (gI σ 603 0 - 1)) 602 0 v) := by
  rw [eX5_faultAtLatest 20]
  simp only [am_run_s, bt, lf, am_in, am_ar, am_fit, am_ld, am_ct, Nat.reduceLT, Nat.reduceEqDiff, reduceIte, Nat.reduceAdd, Nat.reduceLeDiff, Nat.reduceSub, Bool.false_eq_true, if_true, if_false, ite_true, ite_false, List.length_cons, List.length_nil, Nat.zero_add, Nat.add_zero, and_true, true_and, true_or, or_true, and_self, Nat.le_refl, Nat.lt_irrefl, gI_sI, gL_sL, gQ_sQ, gI_sJ, gI_sL, gI_sQ, gL_sI, gL_sQ, gL_sJ, gQ_sI, gQ_sL, gQ_sJ, gN_sI, gN_sL, gN_sQ, gN_sJ, E_b2_0, E_cV_a, E_cV_b, E_c_0, E_dup_0, E_dup_1, E_getI_0, E_kk, E_ldI_a, E_ldI_b, E_ldR_a, E_ldR_b, E_putI_0, E_rZ_0, am_cc, am_pop, am_rt, cC_5, kX5_faultAtLatest, ↓s_faultHere, am_b0]
theorem five : (5 : Int32) = nI 5 := by decide
theorem c_tos {σ : HS} {L : List Int32} {s : RS} {Q : PO} (hL : L.length ≤ 2000) (ha : ab L) (hT : TPX σ L) (hs : RV L s) (hR : RX σ s) (hQ : ∀ σ', frm PRD σ σ' → RX σ' (skp L s) → gI σ' 609 0 = gI σ 609 0 → Q (some (.inl (if (skp L s).2.1 = 0 then 1 else 0))) σ') : MM 44 [.inr (.inr (some (5, 0)))] σ Q := by
  obtain ⟨pl, fa, al, la, tk⟩ := s
  obtain ⟨h1, h2, h3, h4⟩ := hs
  obtain ⟨r1, r2, r3, r4, r5⟩ := hR
  dsimp only at h1 h2 h3 h4 r1 r2 r3 r4 r5
  subst h2
  rw [eX5_takeOutStuffed 43]
  by_cases q1 : al < 5
  · have e : skp L (pl, 0, al, la, tk) = (pl, 0, al, la, tk) := by unfold skp; rw [if_pos q1]
    rw [e] at hQ
    have k1 : nI al < 5 := by rw [five]; exact nI_lt q1 (by omega)
    simp only [am_run_s, bt, lf, am_in, am_ar, am_fit, am_ld, am_ct, Nat.reduceLT, Nat.reduceEqDiff, reduceIte, Nat.reduceAdd, Nat.reduceLeDiff, Nat.reduceSub, Bool.false_eq_true, if_true, if_false, ite_true, ite_false, List.length_cons, List.length_nil, Nat.zero_add, Nat.add_zero, and_true, true_and, true_or, or_true, and_self, Nat.le_refl, Nat.lt_irrefl, gI_sI, gL_sL, gQ_sQ, gI_sJ, gI_sL, gI_sQ, gL_sI, gL_sQ, gL_sJ, gQ_sI, gQ_sL, gQ_sJ, gN_sI, gN_sL, gN_sQ, gN_sJ, E_b2_0, E_cV_a, E_cV_b, E_c_0, E_dup_0, E_dup_1, E_getI_0, E_getR_0, E_iald_0, E_je_0, E_jl_0, E_jz_0, E_kk, E_ldR_a, E_ldR_b, E_putI_0, E_rZ_0, aL_31, am_cc, am_pop, am_rt, cC_31, cC_5, cC_8, rR_600, rR_900, kX5_takeOutStuffed, kX5_takeOutStuffed_0, kX5_takeOutStuffed_1, r3, k1, am_b1]
    exact hQ σ frm.rf ⟨r1, r2, r3, r4, r5⟩ rfl
  have k1 : ¬ nI al < 5 := by rw [five]; exact nI_nlt (by omega) (by omega)
  have k2 := nI_f (j := pl) (by omega)
  by_cases q2 : pl = L.length
  · have e : skp L (pl, 0, al, la, tk) = (pl, 6, al, la, tk) := by unfold skp; rw [if_neg q1, if_pos q2]
    rw [e] at hQ
    have k3 : ¬ nI pl < nI L.length := nI_nlt (by omega) (by omega)
    simp only [am_run_s, bt, lf, am_in, am_ar, am_fit, am_ld, am_ct, Nat.reduceLT, Nat.reduceEqDiff, reduceIte, Nat.reduceAdd, Nat.reduceLeDiff, Nat.reduceSub, Bool.false_eq_true, if_true, if_false, ite_true, ite_false, List.length_cons, List.length_nil, Nat.zero_add, Nat.add_zero, and_true, true_and, true_or, or_true, and_self, Nat.le_refl, Nat.lt_irrefl, gI_sI, gL_sL, gQ_sQ, gI_sJ, gI_sL, gI_sQ, gL_sI, gL_sQ, gL_sJ, gQ_sI, gQ_sL, gQ_sJ, gN_sI, gN_sL, gN_sQ, gN_sJ, E_b2_0, E_cV_a, E_cV_b, E_c_0, E_dup_0, E_dup_1, E_getI_0, E_getR_0, E_iald_0, E_je_0, E_jl_0, E_jz_0, E_kk, E_ldR_a, E_ldR_b, E_putI_0, E_rZ_0, aL_31, am_cc, am_pop, am_rt, cC_31, cC_5, cC_8, rR_600, rR_900, kX5_takeOutStuffed, kX5_takeOutStuffed_0, kX5_takeOutStuffed_1, r3, k1, ↓s_hasBit, bI_z, r1, hT.1, k2, k3, not_true_eq_false, not_false_eq_true, and_false, ↓s_faultHere, am_b0]
    refine hQ _ (frm.rf.si rfl) ⟨?_, ?_, ?_, ?_, ?_⟩ ?_
    · simp only [gI_sI, gL_sL, gQ_sQ, gI_sJ, gI_sL, gI_sQ, gL_sI, gL_sQ, gL_sJ, gQ_sI, gQ_sL, gQ_sJ, gN_sI, gN_sL, gN_sQ, gN_sJ, Nat.reduceLT, Nat.reduceEqDiff, reduceIte, Nat.reduceAdd, Nat.reduceLeDiff, Nat.reduceSub, Bool.false_eq_true, if_true, if_false, ite_true, ite_false, List.length_cons, List.length_nil, Nat.zero_add, Nat.add_zero, and_true, true_and, true_or, or_true, and_self, Nat.le_refl, Nat.lt_irrefl, r1]
    · simp only [gI_sI, gL_sL, gQ_sQ, gI_sJ, gI_sL, gI_sQ, gL_sI, gL_sQ, gL_sJ, gQ_sI, gQ_sL, gQ_sJ, gN_sI, gN_sL, gN_sQ, gN_sJ, Nat.reduceLT, Nat.reduceEqDiff, reduceIte, Nat.reduceAdd, Nat.reduceLeDiff, Nat.reduceSub, Bool.false_eq_true, if_true, if_false, ite_true, ite_false, List.length_cons, List.length_nil, Nat.zero_add, Nat.add_zero, and_true, true_and, true_or, or_true, and_self, Nat.le_refl, Nat.lt_irrefl]
    · simp only [gI_sI, gL_sL, gQ_sQ, gI_sJ, gI_sL, gI_sQ, gL_sI, gL_sQ, gL_sJ, gQ_sI, gQ_sL, gQ_sJ, gN_sI, gN_sL, gN_sQ, gN_sJ, Nat.reduceLT, Nat.reduceEqDiff, reduceIte, Nat.reduceAdd, Nat.reduceLeDiff, Nat.reduceSub, Bool.false_eq_true, if_true, if_false, ite_true, ite_false, List.length_cons, List.length_nil, Nat.zero_add, Nat.add_zero, and_true, true_and, true_or, or_true, and_self, Nat.le_refl, Nat.lt_irrefl, r3]
    · simp only [gI_sI, gL_sL, gQ_sQ, gI_sJ, gI_sL, gI_sQ, gL_sI, gL_sQ, gL_sJ, gQ_sI, gQ_sL, gQ_sJ, gN_sI, gN_sL, gN_sQ, gN_sJ, Nat.reduceLT, Nat.reduceEqDiff, reduceIte, Nat.reduceAdd, Nat.reduceLeDiff, Nat.reduceSub, Bool.false_eq_true, if_true, if_false, ite_true, ite_false, List.length_cons, List.length_nil, Nat.zero_add, Nat.add_zero, and_true, true_and, true_or, or_true, and_self, Nat.le_refl, Nat.lt_irrefl, r4]
    · simp only [gI_sI, gL_sL, gQ_sQ, gI_sJ, gI_sL, gI_sQ, gL_sI, gL_sQ, gL_sJ, gQ_sI, gQ_sL, gQ_sJ, gN_sI, gN_sL, gN_sQ, gN_sJ, Nat.reduceLT, Nat.reduceEqDiff, reduceIte, Nat.reduceAdd, Nat.reduceLeDiff, Nat.reduceSub, Bool.false_eq_true, if_true, if_false, ite_true, ite_false, List.length_cons, List.length_nil, Nat.zero_add, Nat.add_zero, and_true, true_and, true_or, or_true, and_self, Nat.le_refl, Nat.lt_irrefl, r5]
    · simp only [gI_sI, gL_sL, gQ_sQ, gI_sJ, gI_sL, gI_sQ, gL_sI, gL_sQ, gL_sJ, gQ_sI, gQ_sL, gQ_sJ, gN_sI, gN_sL, gN_sQ, gN_sJ, Nat.reduceLT, Nat.reduceEqDiff, reduceIte, Nat.reduceAdd, Nat.reduceLeDiff, Nat.reduceSub, Bool.false_eq_true, if_true, if_false, ite_true, ite_false, List.length_cons, List.length_nil, Nat.zero_add, Nat.add_zero, and_true, true_and, true_or, or_true, and_self, Nat.le_refl, Nat.lt_irrefl]
  have k3 := nI_t (show pl < L.length by omega) (by omega)
  have k4 : vp_in (nI pl) 2000 := vp_in_nI (by omega) (by omega)
  have k5 : (nI pl).toNatClampNeg = pl := nI_clamp (by omega)
  have k6 := hT.2 pl (by omega)
  by_cases q3 : L.getD pl 0 = la
  · have e : skp L (pl, 0, al, la, tk) = (pl, 2, al, la, tk) := by unfold skp; rw [if_neg q1, if_neg q2, if_pos q3]
    rw [e] at hQ
    simp only [am_run_s, bt, lf, am_in, am_ar, am_fit, am_ld, am_ct, Nat.reduceLT, Nat.reduceEqDiff, reduceIte, Nat.reduceAdd, Nat.reduceLeDiff, Nat.reduceSub, Bool.false_eq_true, if_true, if_false, ite_true, ite_false, List.length_cons, List.length_nil, Nat.zero_add, Nat.add_zero, and_true, true_and, true_or, or_true, and_self, Nat.le_refl, Nat.lt_irrefl, gI_sI, gL_sL, gQ_sQ, gI_sJ, gI_sL, gI_sQ, gL_sI, gL_sQ, gL_sJ, gQ_sI, gQ_sL, gQ_sJ, gN_sI, gN_sL, gN_sQ, gN_sJ, E_b2_0, E_cV_a, E_cV_b, E_c_0, E_dup_0, E_dup_1, E_getI_0, E_getR_0, E_iald_0, E_je_0, E_jl_0, E_jz_0, E_kk, E_ldR_a, E_ldR_b, E_putI_0, E_rZ_0, aL_31, am_cc, am_pop, am_rt, cC_31, cC_5, cC_8, rR_600, rR_900, kX5_takeOutStuffed, kX5_takeOutStuffed_0, kX5_takeOutStuffed_1, r3, k1, ↓s_hasBit, bI_z, r1, hT.1, k2, k3, k4, k5, k6, r4, q3, not_true_eq_false, not_false_eq_true, ↓s_faultHere, am_b0]
    refine hQ _ (frm.rf.si rfl) ⟨?_, ?_, ?_, ?_, ?_⟩ ?_
    · simp only [gI_sI, gL_sL, gQ_sQ, gI_sJ, gI_sL, gI_sQ, gL_sI, gL_sQ, gL_sJ, gQ_sI, gQ_sL, gQ_sJ, gN_sI, gN_sL, gN_sQ, gN_sJ, Nat.reduceLT, Nat.reduceEqDiff, reduceIte, Nat.reduceAdd, Nat.reduceLeDiff, Nat.reduceSub, Bool.false_eq_true, if_true, if_false, ite_true, ite_false, List.length_cons, List.length_nil, Nat.zero_add, Nat.add_zero, and_true, true_and, true_or, or_true, and_self, Nat.le_refl, Nat.lt_irrefl, r1]
    · simp only [gI_sI, gL_sL, gQ_sQ, gI_sJ, gI_sL, gI_sQ, gL_sI, gL_sQ, gL_sJ, gQ_sI, gQ_sL, gQ_sJ, gN_sI, gN_sL, gN_sQ, gN_sJ, Nat.reduceLT, Nat.reduceEqDiff, reduceIte, Nat.reduceAdd, Nat.reduceLeDiff, Nat.reduceSub, Bool.false_eq_true, if_true, if_false, ite_true, ite_false, List.length_cons, List.length_nil, Nat.zero_add, Nat.add_zero, and_true, true_and, true_or, or_true, and_self, Nat.le_refl, Nat.lt_irrefl]
    · simp only [gI_sI, gL_sL, gQ_sQ, gI_sJ, gI_sL, gI_sQ, gL_sI, gL_sQ, gL_sJ, gQ_sI, gQ_sL, gQ_sJ, gN_sI, gN_sL, gN_sQ, gN_sJ, Nat.reduceLT, Nat.reduceEqDiff, reduceIte, Nat.reduceAdd, Nat.reduceLeDiff, Nat.reduceSub, Bool.false_eq_true, if_true, if_false, ite_true, ite_false, List.length_cons, List.length_nil, Nat.zero_add, Nat.add_zero, and_true, true_and, true_or, or_true, and_self, Nat.le_refl, Nat.lt_irrefl, r3]
    · simp only [gI_sI, gL_sL, gQ_sQ, gI_sJ, gI_sL, gI_sQ, gL_sI, gL_sQ, gL_sJ, gQ_sI, gQ_sL, gQ_sJ, gN_sI, gN_sL, gN_sQ, gN_sJ, Nat.reduceLT, Nat.reduceEqDiff, reduceIte, Nat.reduceAdd, Nat.reduceLeDiff, Nat.reduceSub, Bool.false_eq_true, if_true, if_false, ite_true, ite_false, List.length_cons, List.length_nil, Nat.zero_add, Nat.add_zero, and_true, true_and, true_or, or_true, and_self, Nat.le_refl, Nat.lt_irrefl, r4]
    · simp only [gI_sI, gL_sL, gQ_sQ, gI_sJ, gI_sL, gI_sQ, gL_sI, gL_sQ, gL_sJ, gQ_sI, gQ_sL, gQ_sJ, gN_sI, gN_sL, gN_sQ, gN_sJ, Nat.reduceLT, Nat.reduceEqDiff, reduceIte, Nat.reduceAdd, Nat.reduceLeDiff, Nat.reduceSub, Bool.false_eq_true, if_true, if_false, ite_true, ite_false, List.length_cons, List.length_nil, Nat.zero_add, Nat.add_zero, and_true, true_and, true_or, or_true, and_self, Nat.le_refl, Nat.lt_irrefl, r5]
    · simp only [gI_sI, gL_sL, gQ_sQ, gI_sJ, gI_sL, gI_sQ, gL_sI, gL_sQ, gL_sJ, gQ_sI, gQ_sL, gQ_sJ, gN_sI, gN_sL, gN_sQ, gN_sJ, Nat.reduceLT, Nat.reduceEqDiff, reduceIte, Nat.reduceAdd, Nat.reduceLeDiff, Nat.reduceSub, Bool.false_eq_true, if_true, if_false, ite_true, ite_false, List.length_cons, List.length_nil, Nat.zero_add, Nat.add_zero, and_true, true_and, true_or, or_true, and_self, Nat.le_refl, Nat.lt_irrefl]
  · have e : skp L (pl, 0, al, la, tk) = (pl + 1, 0, 1, L.getD pl 0, tk + 1) := by unfold skp; rw [if_neg q1, if_neg q2, if_neg q3]
    rw [e] at hQ
    have hla : am_b la := by
      rcases h4 with z | z
      · omega
      · exact z
    have k7 : 1 - la = L.getD pl 0 := by
      rcases hla with rfl | rfl <;> rcases ha.get pl with z | z <;> rw [z] at q3 ⊢ <;> first | rfl | exact absurd rfl q3
    simp only [am_run_s, bt, lf, am_in, am_ar, am_fit, am_ld, am_ct, Nat.reduceLT, Nat.reduceEqDiff, reduceIte, Nat.reduceAdd, Nat.reduceLeDiff, Nat.reduceSub, Bool.false_eq_true, if_true, if_false, ite_true, ite_false, List.length_cons, List.length_nil, Nat.zero_add, Nat.add_zero, and_true, true_and, true_or, or_true, and_self, Nat.le_refl, Nat.lt_irrefl, gI_sI, gL_sL, gQ_sQ, gI_sJ, gI_sL, gI_sQ, gL_sI, gL_sQ, gL_sJ, gQ_sI, gQ_sL, gQ_sJ, gN_sI, gN_sL, gN_sQ, gN_sJ, E_b2_0, E_cV_a, E_cV_b, E_c_0, E_dup_0, E_dup_1, E_getI_0, E_getR_0, E_iald_0, E_je_0, E_jl_0, E_jz_0, E_kk, E_ldR_a, E_ldR_b, E_putI_0, E_rZ_0, aL_31, am_cc, am_pop, am_rt, cC_31, cC_5, cC_8, rR_600, rR_900, kX5_takeOutStuffed, kX5_takeOutStuffed_0, kX5_takeOutStuffed_1, r3, k1, ↓s_hasBit, bI_z, r1, hT.1, k2, k3, k4, k5, k6, r4, r5, q3, k7, not_true_eq_false, not_false_eq_true, nI_1, am_b1]
    apply hQ
    · exact ((((frm.rf.si rfl).si rfl).si rfl).si rfl)
    · refine ⟨?_, ?_, ?_, ?_, ?_⟩
      · simp only [gI_sI, gL_sL, gQ_sQ, gI_sJ, gI_sL, gI_sQ, gL_sI, gL_sQ, gL_sJ, gQ_sI, gQ_sL, gQ_sJ, gN_sI, gN_sL, gN_sQ, gN_sJ, Nat.reduceLT, Nat.reduceEqDiff, reduceIte, Nat.reduceAdd, Nat.reduceLeDiff, Nat.reduceSub, Bool.false_eq_true, if_true, if_false, ite_true, ite_false, List.length_cons, List.length_nil, Nat.zero_add, Nat.add_zero, and_true, true_and, true_or, or_true, and_self, Nat.le_refl, Nat.lt_irrefl]
      · simp only [gI_sI, gL_sL, gQ_sQ, gI_sJ, gI_sL, gI_sQ, gL_sI, gL_sQ, gL_sJ, gQ_sI, gQ_sL, gQ_sJ, gN_sI, gN_sL, gN_sQ, gN_sJ, Nat.reduceLT, Nat.reduceEqDiff, reduceIte, Nat.reduceAdd, Nat.reduceLeDiff, Nat.reduceSub, Bool.false_eq_true, if_true, if_false, ite_true, ite_false, List.length_cons, List.length_nil, Nat.zero_add, Nat.add_zero, and_true, true_and, true_or, or_true, and_self, Nat.le_refl, Nat.lt_irrefl, r2]
      · simp only [gI_sI, gL_sL, gQ_sQ, gI_sJ, gI_sL, gI_sQ, gL_sI, gL_sQ, gL_sJ, gQ_sI, gQ_sL, gQ_sJ, gN_sI, gN_sL, gN_sQ, gN_sJ, Nat.reduceLT, Nat.reduceEqDiff, reduceIte, Nat.reduceAdd, Nat.reduceLeDiff, Nat.reduceSub, Bool.false_eq_true, if_true, if_false, ite_true, ite_false, List.length_cons, List.length_nil, Nat.zero_add, Nat.add_zero, and_true, true_and, true_or, or_true, and_self, Nat.le_refl, Nat.lt_irrefl]; exact one'
      · simp only [gI_sI, gL_sL, gQ_sQ, gI_sJ, gI_sL, gI_sQ, gL_sI, gL_sQ, gL_sJ, gQ_sI, gQ_sL, gQ_sJ, gN_sI, gN_sL, gN_sQ, gN_sJ, Nat.reduceLT, Nat.reduceEqDiff, reduceIte, Nat.reduceAdd, Nat.reduceLeDiff, Nat.reduceSub, Bool.false_eq_true, if_true, if_false, ite_true, ite_false, List.length_cons, List.length_nil, Nat.zero_add, Nat.add_zero, and_true, true_and, true_or, or_true, and_self, Nat.le_refl, Nat.lt_irrefl]
      · simp only [gI_sI, gL_sL, gQ_sQ, gI_sJ, gI_sL, gI_sQ, gL_sI, gL_sQ, gL_sJ, gQ_sI, gQ_sL, gQ_sJ, gN_sI, gN_sL, gN_sQ, gN_sJ, Nat.reduceLT, Nat.reduceEqDiff, reduceIte, Nat.reduceAdd, Nat.reduceLeDiff, Nat.reduceSub, Bool.false_eq_true, if_true, if_false, ite_true, ite_false, List.length_cons, List.length_nil, Nat.zero_add, Nat.add_zero, and_true, true_and, true_or, or_true, and_self, Nat.le_refl, Nat.lt_irrefl]
    · simp only [gI_sI, gL_sL, gQ_sQ, gI_sJ, gI_sL, gI_sQ, gL_sI, gL_sQ, gL_sJ, gQ_sI, gQ_sL, gQ_sJ, gN_sI, gN_sL, gN_sQ, gN_sJ, Nat.reduceLT, Nat.reduceEqDiff, reduceIte, Nat.reduceAdd, Nat.reduceLeDiff, Nat.reduceSub, Bool.false_eq_true, if_true, if_false, ite_true, ite_false, List.length_cons, List.length_nil, Nat.zero_add, Nat.add_zero, and_true, true_and, true_or, or_true, and_self, Nat.le_refl, Nat.lt_irrefl]
theorem c_takePlain {σ : HS} {L : List Int32} {s : RS} {sm : Int32} {Q : PO} (hL : L.length ≤ 2000) (ha : ab L) (hT : TPX σ L) (hs : RV L s) (hR : RX σ s) (hm : gI σ 609 0 = sm) (hQ : ∀ σ', frm PRD σ σ' → RX σ' (tk1 L s).1 → (∀ b, (tk1 L s).2 = some b → gI σ' 609 0 = crcX sm b) → Q (some (.inl ((tk1 L s).2.getD (-1)))) σ') : MM 43 [.inr (.inr (some (5, 0)))] σ Q := by
  rw [eX5_takePlain 50]
  have h2 : gI σ 602 0 = 0 := by rw [hR.2.1]; exact hs.2.1
  simp only [am_run_s, bt, lf, am_in, am_ar, am_fit, am_ld, am_ct, Nat.reduceLT, Nat.reduceEqDiff, reduceIte, Nat.reduceAdd, Nat.reduceLeDiff, Nat.reduceSub, Bool.false_eq_true, if_true, if_false, ite_true, ite_false, List.length_cons, List.length_nil, Nat.zero_add, Nat.add_zero, and_true, true_and, true_or, or_true, and_self, Nat.le_refl, Nat.lt_irrefl, gI_sI, gL_sL, gQ_sQ, gI_sJ, gI_sL, gI_sQ, gL_sI, gL_sQ, gL_sJ, gQ_sI, gQ_sL, gQ_sJ, gN_sI, gN_sL, gN_sQ, gN_sJ, E_b2_0, E_cS_a, E_cS_b, E_cV_a, E_cV_b, E_c_0, E_dup_0, E_dup_1, E_getI_0, E_getR_0, E_iald_0, E_je_0, E_jmp_0, E_jz_0, E_kk, E_ldI_a, E_ldI_b, E_ldR_a, E_ldR_b, E_pop_0, E_pop_1, E_putI_0, E_rI_0, E_stI_0, aL_31, am_cc, am_nl, am_ok, am_pop, am_rt, am_set, cC_31, cC_5, cC_8, rR_600, rR_900, kX5_takePlain, kX5_takePlain_0, kX5_takePlain_1, h2]
  refine c_tos hL ha hT hs hR (fun σ1 f1 r1 m1 => ?_)
  by_cases q : (skp L s).2.1 = 0
  · have hv := RV_skp hs ha q
    have eT : tk1 L s = tk0 L (skp L s) := by unfold tk1; rw [if_pos q]
    rw [eT] at hQ
    have hT1 : TPX σ1 L := hT.fx f1 rfl rfl
    rw [if_pos q]
    revert hQ r1 hv
    generalize skp L s = s1
    intro hQ r1 hv
    obtain ⟨pl, fa, al, la, tk⟩ := s1
    obtain ⟨⟨g1, g2, g3, g4⟩, g5⟩ := hv
    obtain ⟨p1, p2, p3, p4, p5⟩ := r1
    dsimp only at g1 g2 g3 g4 g5 p1 p2 p3 p4 p5
    subst g2
    have k2 := nI_f (j := pl) (by omega)
    by_cases q2 : pl = L.length
    · have e : tk0 L (pl, 0, al, la, tk) = ((pl, 6, al, la, tk), none) := by unfold tk0; rw [if_pos q2]
      rw [e] at hQ
      have k3 : ¬ nI pl < nI L.length := nI_nlt (by omega) (by omega)
      simp only [am_run_s, bt, lf, am_in, am_ar, am_fit, am_ld, am_ct, Nat.reduceLT, Nat.reduceEqDiff, reduceIte, Nat.reduceAdd, Nat.reduceLeDiff, Nat.reduceSub, Bool.false_eq_true, if_true, if_false, ite_true, ite_false, List.length_cons, List.length_nil, Nat.zero_add, Nat.add_zero, and_true, true_and, true_or, or_true, and_self, Nat.le_refl, Nat.lt_irrefl, gI_sI, gL_sL, gQ_sQ, gI_sJ, gI_sL, gI_sQ, gL_sI, gL_sQ, gL_sJ, gQ_sI, gQ_sL, gQ_sJ, gN_sI, gN_sL, gN_sQ, gN_sJ, E_b2_0, E_cS_a, E_cS_b, E_cV_a, E_cV_b, E_c_0, E_dup_0, E_dup_1, E_getI_0, E_getR_0, E_iald_0, E_je_0, E_jmp_0, E_jz_0, E_kk, E_ldI_a, E_ldI_b, E_ldR_a, E_ldR_b, E_pop_0, E_pop_1, E_putI_0, E_rI_0, E_stI_0, aL_31, am_cc, am_nl, am_ok, am_pop, am_rt, am_set, cC_31, cC_5, cC_8, rR_600, rR_900, kX5_takePlain, kX5_takePlain_0, kX5_takePlain_1, i01, ↓s_hasBit, bI_z, p1, hT1.1, k2, k3, not_true_eq_false, not_false_eq_true, and_false, ↓s_faultHere]
      refine hQ _ (f1.si rfl) ⟨?_, ?_, ?_, ?_, ?_⟩ (fun b z => by cases z)
      · simp only [gI_sI, gL_sL, gQ_sQ, gI_sJ, gI_sL, gI_sQ, gL_sI, gL_sQ, gL_sJ, gQ_sI, gQ_sL, gQ_sJ, gN_sI, gN_sL, gN_sQ, gN_sJ, Nat.reduceLT, Nat.reduceEqDiff, reduceIte, Nat.reduceAdd, Nat.reduceLeDiff, Nat.reduceSub, Bool.false_eq_true, if_true, if_false, ite_true, ite_false, List.length_cons, List.length_nil, Nat.zero_add, Nat.add_zero, and_true, true_and, true_or, or_true, and_self, Nat.le_refl, Nat.lt_irrefl, p1]
      · simp only [gI_sI, gL_sL, gQ_sQ, gI_sJ, gI_sL, gI_sQ, gL_sI, gL_sQ, gL_sJ, gQ_sI, gQ_sL, gQ_sJ, gN_sI, gN_sL, gN_sQ, gN_sJ, Nat.reduceLT, Nat.reduceEqDiff, reduceIte, Nat.reduceAdd, Nat.reduceLeDiff, Nat.reduceSub, Bool.false_eq_true, if_true, if_false, ite_true, ite_false, List.length_cons, List.length_nil, Nat.zero_add, Nat.add_zero, and_true, true_and, true_or, or_true, and_self, Nat.le_refl, Nat.lt_irrefl]
      · simp only [gI_sI, gL_sL, gQ_sQ, gI_sJ, gI_sL, gI_sQ, gL_sI, gL_sQ, gL_sJ, gQ_sI, gQ_sL, gQ_sJ, gN_sI, gN_sL, gN_sQ, gN_sJ, Nat.reduceLT, Nat.reduceEqDiff, reduceIte, Nat.reduceAdd, Nat.reduceLeDiff, Nat.reduceSub, Bool.false_eq_true, if_true, if_false, ite_true, ite_false, List.length_cons, List.length_nil, Nat.zero_add, Nat.add_zero, and_true, true_and, true_or, or_true, and_self, Nat.le_refl, Nat.lt_irrefl, p3]
      · simp only [gI_sI, gL_sL, gQ_sQ, gI_sJ, gI_sL, gI_sQ, gL_sI, gL_sQ, gL_sJ, gQ_sI, gQ_sL, gQ_sJ, gN_sI, gN_sL, gN_sQ, gN_sJ, Nat.reduceLT, Nat.reduceEqDiff, reduceIte, Nat.reduceAdd, Nat.reduceLeDiff, Nat.reduceSub, Bool.false_eq_true, if_true, if_false, ite_true, ite_false, List.length_cons, List.length_nil, Nat.zero_add, Nat.add_zero, and_true, true_and, true_or, or_true, and_self, Nat.le_refl, Nat.lt_irrefl, p4]
      · simp only [gI_sI, gL_sL, gQ_sQ, gI_sJ, gI_sL, gI_sQ, gL_sI, gL_sQ, gL_sJ, gQ_sI, gQ_sL, gQ_sJ, gN_sI, gN_sL, gN_sQ, gN_sJ, Nat.reduceLT, Nat.reduceEqDiff, reduceIte, Nat.reduceAdd, Nat.reduceLeDiff, Nat.reduceSub, Bool.false_eq_true, if_true, if_false, ite_true, ite_false, List.length_cons, List.length_nil, Nat.zero_add, Nat.add_zero, and_true, true_and, true_or, or_true, and_self, Nat.le_refl, Nat.lt_irrefl, p5]
    · have e : tk0 L (pl, 0, al, la, tk) = ((pl + 1, 0, (if L.getD pl 0 = la then al + 1 else 1), L.getD pl 0, tk), some (L.getD pl 0)) := by unfold tk0; rw [if_neg q2]
      rw [e] at hQ
      have k3 := nI_t (show pl < L.length by omega) (by omega)
      have k4 : vp_in (nI pl) 2000 := vp_in_nI (by omega) (by omega)
      have k5 : (nI pl).toNatClampNeg = pl := nI_clamp (by omega)
      have k6 := hT1.2 pl (by omega)
      have k7 : gI σ1 609 0 = sm := by rw [m1]; exact hm
      by_cases q3 : L.getD pl 0 = la
      · simp only [am_run_s, bt, lf, am_in, am_ar, am_fit, am_ld, am_ct, Nat.reduceLT, Nat.reduceEqDiff, reduceIte, Nat.reduceAdd, Nat.reduceLeDiff, Nat.reduceSub, Bool.false_eq_true, if_true, if_false, ite_true, ite_false, List.length_cons, List.length_nil, Nat.zero_add, Nat.add_zero, and_true, true_and, true_or, or_true, and_self, Nat.le_refl, Nat.lt_irrefl, gI_sI, gL_sL, gQ_sQ, gI_sJ, gI_sL, gI_sQ, gL_sI, gL_sQ, gL_sJ, gQ_sI, gQ_sL, gQ_sJ, gN_sI, gN_sL, gN_sQ, gN_sJ, E_b2_0, E_cS_a, E_cS_b, E_cV_a, E_cV_b, E_c_0, E_dup_0, E_dup_1, E_getI_0, E_getR_0, E_iald_0, E_je_0, E_jmp_0, E_jz_0, E_kk, E_ldI_a, E_ldI_b, E_ldR_a, E_ldR_b, E_pop_0, E_pop_1, E_putI_0, E_rI_0, E_stI_0, aL_31, am_cc, am_nl, am_ok, am_pop, am_rt, am_set, cC_31, cC_5, cC_8, rR_600, rR_900, kX5_takePlain, kX5_takePlain_0, kX5_takePlain_1, i01, ↓s_hasBit, bI_z, p1, p3, p4, hT1.1, k2, k3, k4, k5, k6, k7, q3, not_true_eq_false, not_false_eq_true, nI_1, ↓s_sumWith]
        rw [q3] at hQ
        refine hQ _ ((((f1.si rfl).si rfl).si rfl).si rfl) ⟨?_, ?_, ?_, ?_, ?_⟩ (fun b z => ?_)
        · simp only [gI_sI, gL_sL, gQ_sQ, gI_sJ, gI_sL, gI_sQ, gL_sI, gL_sQ, gL_sJ, gQ_sI, gQ_sL, gQ_sJ, gN_sI, gN_sL, gN_sQ, gN_sJ, Nat.reduceLT, Nat.reduceEqDiff, reduceIte, Nat.reduceAdd, Nat.reduceLeDiff, Nat.reduceSub, Bool.false_eq_true, if_true, if_false, ite_true, ite_false, List.length_cons, List.length_nil, Nat.zero_add, Nat.add_zero, and_true, true_and, true_or, or_true, and_self, Nat.le_refl, Nat.lt_irrefl]
        · simp only [gI_sI, gL_sL, gQ_sQ, gI_sJ, gI_sL, gI_sQ, gL_sI, gL_sQ, gL_sJ, gQ_sI, gQ_sL, gQ_sJ, gN_sI, gN_sL, gN_sQ, gN_sJ, Nat.reduceLT, Nat.reduceEqDiff, reduceIte, Nat.reduceAdd, Nat.reduceLeDiff, Nat.reduceSub, Bool.false_eq_true, if_true, if_false, ite_true, ite_false, List.length_cons, List.length_nil, Nat.zero_add, Nat.add_zero, and_true, true_and, true_or, or_true, and_self, Nat.le_refl, Nat.lt_irrefl, p2]
        · simp only [gI_sI, gL_sL, gQ_sQ, gI_sJ, gI_sL, gI_sQ, gL_sI, gL_sQ, gL_sJ, gQ_sI, gQ_sL, gQ_sJ, gN_sI, gN_sL, gN_sQ, gN_sJ, Nat.reduceLT, Nat.reduceEqDiff, reduceIte, Nat.reduceAdd, Nat.reduceLeDiff, Nat.reduceSub, Bool.false_eq_true, if_true, if_false, ite_true, ite_false, List.length_cons, List.length_nil, Nat.zero_add, Nat.add_zero, and_true, true_and, true_or, or_true, and_self, Nat.le_refl, Nat.lt_irrefl]
        · simp only [gI_sI, gL_sL, gQ_sQ, gI_sJ, gI_sL, gI_sQ, gL_sI, gL_sQ, gL_sJ, gQ_sI, gQ_sL, gQ_sJ, gN_sI, gN_sL, gN_sQ, gN_sJ, Nat.reduceLT, Nat.reduceEqDiff, reduceIte, Nat.reduceAdd, Nat.reduceLeDiff, Nat.reduceSub, Bool.false_eq_true, if_true, if_false, ite_true, ite_false, List.length_cons, List.length_nil, Nat.zero_add, Nat.add_zero, and_true, true_and, true_or, or_true, and_self, Nat.le_refl, Nat.lt_irrefl]
        · simp only [gI_sI, gL_sL, gQ_sQ, gI_sJ, gI_sL, gI_sQ, gL_sI, gL_sQ, gL_sJ, gQ_sI, gQ_sL, gQ_sJ, gN_sI, gN_sL, gN_sQ, gN_sJ, Nat.reduceLT, Nat.reduceEqDiff, reduceIte, Nat.reduceAdd, Nat.reduceLeDiff, Nat.reduceSub, Bool.false_eq_true, if_true, if_false, ite_true, ite_false, List.length_cons, List.length_nil, Nat.zero_add, Nat.add_zero, and_true, true_and, true_or, or_true, and_self, Nat.le_refl, Nat.lt_irrefl, p5]
        · rw [← Option.some.inj z]; simp only [gI_sI, gL_sL, gQ_sQ, gI_sJ, gI_sL, gI_sQ, gL_sI, gL_sQ, gL_sJ, gQ_sI, gQ_sL, gQ_sJ, gN_sI, gN_sL, gN_sQ, gN_sJ, Nat.reduceLT, Nat.reduceEqDiff, reduceIte, Nat.reduceAdd, Nat.reduceLeDiff, Nat.reduceSub, Bool.false_eq_true, if_true, if_false, ite_true, ite_false, List.length_cons, List.length_nil, Nat.zero_add, Nat.add_zero, and_true, true_and, true_or, or_true, and_self, Nat.le_refl, Nat.lt_irrefl]
      · simp only [am_run_s, bt, lf, am_in, am_ar, am_fit, am_ld, am_ct, Nat.reduceLT, Nat.reduceEqDiff, reduceIte, Nat.reduceAdd, Nat.reduceLeDiff, Nat.reduceSub, Bool.false_eq_true, if_true, if_false, ite_true, ite_false, List.length_cons, List.length_nil, Nat.zero_add, Nat.add_zero, and_true, true_and, true_or, or_true, and_self, Nat.le_refl, Nat.lt_irrefl, gI_sI, gL_sL, gQ_sQ, gI_sJ, gI_sL, gI_sQ, gL_sI, gL_sQ, gL_sJ, gQ_sI, gQ_sL, gQ_sJ, gN_sI, gN_sL, gN_sQ, gN_sJ, E_b2_0, E_cS_a, E_cS_b, E_cV_a, E_cV_b, E_c_0, E_dup_0, E_dup_1, E_getI_0, E_getR_0, E_iald_0, E_je_0, E_jmp_0, E_jz_0, E_kk, E_ldI_a, E_ldI_b, E_ldR_a, E_ldR_b, E_pop_0, E_pop_1, E_putI_0, E_rI_0, E_stI_0, aL_31, am_cc, am_nl, am_ok, am_pop, am_rt, am_set, cC_31, cC_5, cC_8, rR_600, rR_900, kX5_takePlain, kX5_takePlain_0, kX5_takePlain_1, i01, ↓s_hasBit, bI_z, p1, p3, p4, hT1.1, k2, k3, k4, k5, k6, k7, q3, not_true_eq_false, not_false_eq_true, nI_1, ↓s_sumWith]
        rw [if_neg q3] at hQ
        refine hQ _ ((((f1.si rfl).si rfl).si rfl).si rfl) ⟨?_, ?_, ?_, ?_, ?_⟩ (fun b z => ?_)
        · simp only [gI_sI, gL_sL, gQ_sQ, gI_sJ, gI_sL, gI_sQ, gL_sI, gL_sQ, gL_sJ, gQ_sI, gQ_sL, gQ_sJ, gN_sI, gN_sL, gN_sQ, gN_sJ, Nat.reduceLT, Nat.reduceEqDiff, reduceIte, Nat.reduceAdd, Nat.reduceLeDiff, Nat.reduceSub, Bool.false_eq_true, if_true, if_false, ite_true, ite_false, List.length_cons, List.length_nil, Nat.zero_add, Nat.add_zero, and_true, true_and, true_or, or_true, and_self, Nat.le_refl, Nat.lt_irrefl]
        · simp only [gI_sI, gL_sL, gQ_sQ, gI_sJ, gI_sL, gI_sQ, gL_sI, gL_sQ, gL_sJ, gQ_sI, gQ_sL, gQ_sJ, gN_sI, gN_sL, gN_sQ, gN_sJ, Nat.reduceLT, Nat.reduceEqDiff, reduceIte, Nat.reduceAdd, Nat.reduceLeDiff, Nat.reduceSub, Bool.false_eq_true, if_true, if_false, ite_true, ite_false, List.length_cons, List.length_nil, Nat.zero_add, Nat.add_zero, and_true, true_and, true_or, or_true, and_self, Nat.le_refl, Nat.lt_irrefl, p2]
        · simp only [gI_sI, gL_sL, gQ_sQ, gI_sJ, gI_sL, gI_sQ, gL_sI, gL_sQ, gL_sJ, gQ_sI, gQ_sL, gQ_sJ, gN_sI, gN_sL, gN_sQ, gN_sJ, Nat.reduceLT, Nat.reduceEqDiff, reduceIte, Nat.reduceAdd, Nat.reduceLeDiff, Nat.reduceSub, Bool.false_eq_true, if_true, if_false, ite_true, ite_false, List.length_cons, List.length_nil, Nat.zero_add, Nat.add_zero, and_true, true_and, true_or, or_true, and_self, Nat.le_refl, Nat.lt_irrefl]; exact one'
        · simp only [gI_sI, gL_sL, gQ_sQ, gI_sJ, gI_sL, gI_sQ, gL_sI, gL_sQ, gL_sJ, gQ_sI, gQ_sL, gQ_sJ, gN_sI, gN_sL, gN_sQ, gN_sJ, Nat.reduceLT, Nat.reduceEqDiff, reduceIte, Nat.reduceAdd, Nat.reduceLeDiff, Nat.reduceSub, Bool.false_eq_true, if_true, if_false, ite_true, ite_false, List.length_cons, List.length_nil, Nat.zero_add, Nat.add_zero, and_true, true_and, true_or, or_true, and_self, Nat.le_refl, Nat.lt_irrefl]
        · simp only [gI_sI, gL_sL, gQ_sQ, gI_sJ, gI_sL, gI_sQ, gL_sI, gL_sQ, gL_sJ, gQ_sI, gQ_sL, gQ_sJ, gN_sI, gN_sL, gN_sQ, gN_sJ, Nat.reduceLT, Nat.reduceEqDiff, reduceIte, Nat.reduceAdd, Nat.reduceLeDiff, Nat.reduceSub, Bool.false_eq_true, if_true, if_false, ite_true, ite_false, List.length_cons, List.length_nil, Nat.zero_add, Nat.add_zero, and_true, true_and, true_or, or_true, and_self, Nat.le_refl, Nat.lt_irrefl, p5]
        · rw [← Option.some.inj z]; simp only [gI_sI, gL_sL, gQ_sQ, gI_sJ, gI_sL, gI_sQ, gL_sI, gL_sQ, gL_sJ, gQ_sI, gQ_sL, gQ_sJ, gN_sI, gN_sL, gN_sQ, gN_sJ, Nat.reduceLT, Nat.reduceEqDiff, reduceIte, Nat.reduceAdd, Nat.reduceLeDiff, Nat.reduceSub, Bool.false_eq_true, if_true, if_false, ite_true, ite_false, List.length_cons, List.length_nil, Nat.zero_add, Nat.add_zero, and_true, true_and, true_or, or_true, and_self, Nat.le_refl, Nat.lt_irrefl]
  · have eT : tk1 L s = (skp L s, none) := by unfold tk1; rw [if_neg q]
    rw [eT] at hQ
    rw [if_neg q]
    simp only [am_run_s, bt, lf, am_in, am_ar, am_fit, am_ld, am_ct, Nat.reduceLT, Nat.reduceEqDiff, reduceIte, Nat.reduceAdd, Nat.reduceLeDiff, Nat.reduceSub, Bool.false_eq_true, if_true, if_false, ite_true, ite_false, List.length_cons, List.length_nil, Nat.zero_add, Nat.add_zero, and_true, true_and, true_or, or_true, and_self, Nat.le_refl, Nat.lt_irrefl, gI_sI, gL_sL, gQ_sQ, gI_sJ, gI_sL, gI_sQ, gL_sI, gL_sQ, gL_sJ, gQ_sI, gQ_sL, gQ_sJ, gN_sI, gN_sL, gN_sQ, gN_sJ, E_b2_0, E_cS_a, E_cS_b, E_cV_a, E_cV_b, E_c_0, E_dup_0, E_dup_1, E_getI_0, E_getR_0, E_iald_0, E_je_0, E_jmp_0, E_jz_0, E_kk, E_ldI_a, E_ldI_b, E_ldR_a, E_ldR_b, E_pop_0, E_pop_1, E_putI_0, E_rI_0, E_stI_0, aL_31, am_cc, am_nl, am_ok, am_pop, am_rt, am_set, cC_31, cC_5, cC_8, rR_600, rR_900, kX5_takePlain, kX5_takePlain_0, kX5_takePlain_1]
    exact hQ σ1 f1 r1 (fun b z => by cases z)
/-- what a number is told as -/
def onum (o : Option (Int32 × Int32)) : Int32 := match o with
  | none => -1
  | some p => p.1
theorem b_ne {b : Int32} (h : am_b b) : ¬ b = -1 := by
  rcases h with rfl | rfl <;> decide
theorem l_takeNumber {L : List Int32} {Q : PO} {n : Nat} (hn : n ≤ 18) (hL : L.length ≤ 2000) (ha : ab L) : ∀ (w i : Nat) (σ : HS) (s : RS) (v sm : Int32) (o : Option AV), i + w = n → TPX σ L → RV L s → RX σ s → gI σ 609 0 = sm →
    (∀ σ', frm PRD σ σ' → RX σ' (tkN L w s v sm).1 → (∀ p, (tkN L w s v sm).2 = some p → gI σ' 609 0 = p.2) → Q (some (.inl (onum (tkN L w s v sm).2))) σ') →
    am_T (kX5_takeNumber S1) MM Q 4 [some (.inr (.inr (some (5, 0)))), some (.inl (nI n)), some (.inl v), some (.inl (nI i)), o] [] σ 0 0 := by
  intro w
  induction w with
  | zero =>
    intro i σ s v sm o hi hT hs hR hm hQ
    have e : i = n := by omega
    subst e
    rw [hX5_takeNumber 20]
    have h0 : ¬ nI i < nI i := nI_nlt (by omega) (by omega)
    simp only [am_run_s, bt, lf, am_in, am_ar, am_fit, am_ld, am_ct, Nat.reduceLT, Nat.reduceEqDiff, reduceIte, Nat.reduceAdd, Nat.reduceLeDiff, Nat.reduceSub, Bool.false_eq_true, if_true, if_false, ite_true, ite_false, List.length_cons, List.length_nil, Nat.zero_add, Nat.add_zero, and_true, true_and, true_or, or_true, and_self, Nat.le_refl, Nat.lt_irrefl, gI_sI, gL_sL, gQ_sQ, gI_sJ, gI_sL, gI_sQ, gL_sI, gL_sQ, gL_sJ, gQ_sI, gQ_sL, gQ_sJ, gN_sI, gN_sL, gN_sQ, gN_sJ, E_b2_0, E_cV_a, E_cV_b, E_c_0, E_inc_a, E_inc_b, E_je_0, E_jl_0, E_jmp_0, E_kk, E_ldI_a, E_ldI_b, E_ldR_a, E_ldR_b, E_rI_0, E_stI_0, am_cc, am_nl, am_ok, am_pop, am_rt, am_set, cC_5, kX5_takeNumber, h0]
    exact hQ σ frm.rf hR (fun p z => by rw [← Option.some.inj z]; exact hm)
  | succ w ih =>
    intro i σ s v sm o hi hT hs hR hm hQ
    rw [hX5_takeNumber 20]
    have h0 := nI_t (show i < n by omega) (by omega)
    simp only [am_run_s, bt, lf, am_in, am_ar, am_fit, am_ld, am_ct, Nat.reduceLT, Nat.reduceEqDiff, reduceIte, Nat.reduceAdd, Nat.reduceLeDiff, Nat.reduceSub, Bool.false_eq_true, if_true, if_false, ite_true, ite_false, List.length_cons, List.length_nil, Nat.zero_add, Nat.add_zero, and_true, true_and, true_or, or_true, and_self, Nat.le_refl, Nat.lt_irrefl, gI_sI, gL_sL, gQ_sQ, gI_sJ, gI_sL, gI_sQ, gL_sI, gL_sQ, gL_sJ, gQ_sI, gQ_sL, gQ_sJ, gN_sI, gN_sL, gN_sQ, gN_sJ, E_b2_0, E_cV_a, E_cV_b, E_c_0, E_inc_a, E_inc_b, E_je_0, E_jl_0, E_jmp_0, E_kk, E_ldI_a, E_ldI_b, E_ldR_a, E_ldR_b, E_rI_0, E_stI_0, am_cc, am_nl, am_ok, am_pop, am_rt, am_set, cC_5, kX5_takeNumber, h0]
    refine c_takePlain hL ha hT hs hR hm (fun σ1 f1 r1 m1 => ?_)
    cases e : (tk1 L s).2 with
    | none =>
      rw [tkN_n e] at hQ
      simp only [am_run_s, bt, lf, am_in, am_ar, am_fit, am_ld, am_ct, Nat.reduceLT, Nat.reduceEqDiff, reduceIte, Nat.reduceAdd, Nat.reduceLeDiff, Nat.reduceSub, Bool.false_eq_true, if_true, if_false, ite_true, ite_false, List.length_cons, List.length_nil, Nat.zero_add, Nat.add_zero, and_true, true_and, true_or, or_true, and_self, Nat.le_refl, Nat.lt_irrefl, gI_sI, gL_sL, gQ_sQ, gI_sJ, gI_sL, gI_sQ, gL_sI, gL_sQ, gL_sJ, gQ_sI, gQ_sL, gQ_sJ, gN_sI, gN_sL, gN_sQ, gN_sJ, E_b2_0, E_cV_a, E_cV_b, E_c_0, E_inc_a, E_inc_b, E_je_0, E_jl_0, E_jmp_0, E_kk, E_ldI_a, E_ldI_b, E_ldR_a, E_ldR_b, E_rI_0, E_stI_0, am_cc, am_nl, am_ok, am_pop, am_rt, am_set, cC_5, kX5_takeNumber, Option.getD_none]
      exact hQ σ1 f1 r1 (fun p z => by cases z)
    | some b =>
      rw [tkN_s e] at hQ
      obtain ⟨g1, g2⟩ := RV_tk1 hs ha e
      have hb := b_ne g2
      have hsh := shl_or v g2
      simp only [am_run_s, bt, lf, am_in, am_ar, am_fit, am_ld, am_ct, Nat.reduceLT, Nat.reduceEqDiff, reduceIte, Nat.reduceAdd, Nat.reduceLeDiff, Nat.reduceSub, Bool.false_eq_true, if_true, if_false, ite_true, ite_false, List.length_cons, List.length_nil, Nat.zero_add, Nat.add_zero, and_true, true_and, true_or, or_true, and_self, Nat.le_refl, Nat.lt_irrefl, gI_sI, gL_sL, gQ_sQ, gI_sJ, gI_sL, gI_sQ, gL_sI, gL_sQ, gL_sJ, gQ_sI, gQ_sL, gQ_sJ, gN_sI, gN_sL, gN_sQ, gN_sJ, E_b2_0, E_cV_a, E_cV_b, E_c_0, E_inc_a, E_inc_b, E_je_0, E_jl_0, E_jmp_0, E_kk, E_ldI_a, E_ldI_b, E_ldR_a, E_ldR_b, E_rI_0, E_stI_0, am_cc, am_nl, am_ok, am_pop, am_rt, am_set, cC_5, kX5_takeNumber, Option.getD_some, hb, hsh, nI_1]
      exact ih (i + 1) σ1 (tk1 L s).1 (2 * v + b) (crcX sm b) _ (by omega) (hT.fx f1 rfl rfl) g1 r1 (m1 b e) (fun σ2 f2 r2 m2 => hQ σ2 (f1.tr f2) r2 m2)
theorem c_takeNumber {L : List Int32} {Q : PO} {σ : HS} {s : RS} {sm : Int32} {w : Nat} (hn : w ≤ 18) (hL : L.length ≤ 2000) (ha : ab L) (hT : TPX σ L) (hs : RV L s) (hR : RX σ s) (hm : gI σ 609 0 = sm) (wd : Int32) (hwd : wd = nI w)
    (hQ : ∀ σ', frm PRD σ σ' → RX σ' (tkN L w s 0 sm).1 → (∀ p, (tkN L w s 0 sm).2 = some p → gI σ' 609 0 = p.2) → Q (some (.inl (onum (tkN L w s 0 sm).2))) σ') :
    MM 42 [.inr (.inr (some (5, 0))), .inl wd] σ Q := by
  subst hwd
  rw [eX5_takeNumber 20]
  simp only [am_run_s, bt, lf, am_in, am_ar, am_fit, am_ld, am_ct, Nat.reduceLT, Nat.reduceEqDiff, reduceIte, Nat.reduceAdd, Nat.reduceLeDiff, Nat.reduceSub, Bool.false_eq_true, if_true, if_false, ite_true, ite_false, List.length_cons, List.length_nil, Nat.zero_add, Nat.add_zero, and_true, true_and, true_or, or_true, and_self, Nat.le_refl, Nat.lt_irrefl, gI_sI, gL_sL, gQ_sQ, gI_sJ, gI_sL, gI_sQ, gL_sI, gL_sQ, gL_sJ, gQ_sI, gQ_sL, gQ_sJ, gN_sI, gN_sL, gN_sQ, gN_sJ, E_b2_0, E_cV_a, E_cV_b, E_c_0, E_inc_a, E_inc_b, E_je_0, E_jl_0, E_jmp_0, E_kk, E_ldI_a, E_ldI_b, E_ldR_a, E_ldR_b, E_rI_0, E_stI_0, am_cc, am_nl, am_ok, am_pop, am_rt, am_set, cC_5, kX5_takeNumber]
  exact l_takeNumber hn hL ha w 0 σ s 0 sm _ (by omega) hT hs hR hm hQ
/-- behind a fault nothing is taken -/
theorem c_takeNumber_f {Q : PO} {σ : HS} {w : Nat} (hn : 0 < w) (hw : w ≤ 18) (hf : ¬ gI σ 602 0 = 0) (wd : Int32) (hwd : wd = nI w) : MM 42 [.inr (.inr (some (5, 0))), .inl wd] σ Q ↔ Q (some (.inl (-1))) σ := by
  subst hwd
  rw [eX5_takeNumber 20]
  simp only [am_run_s, bt, lf, am_in, am_ar, am_fit, am_ld, am_ct, Nat.reduceLT, Nat.reduceEqDiff, reduceIte, Nat.reduceAdd, Nat.reduceLeDiff, Nat.reduceSub, Bool.false_eq_true, if_true, if_false, ite_true, ite_false, List.length_cons, List.length_nil, Nat.zero_add, Nat.add_zero, and_true, true_and, true_or, or_true, and_self, Nat.le_refl, Nat.lt_irrefl, gI_sI, gL_sL, gQ_sQ, gI_sJ, gI_sL, gI_sQ, gL_sI, gL_sQ, gL_sJ, gQ_sI, gQ_sL, gQ_sJ, gN_sI, gN_sL, gN_sQ, gN_sJ, E_b2_0, E_cV_a, E_cV_b, E_c_0, E_inc_a, E_inc_b, E_je_0, E_jl_0, E_jmp_0, E_kk, E_ldI_a, E_ldI_b, E_ldR_a, E_ldR_b, E_rI_0, E_stI_0, am_cc, am_nl, am_ok, am_pop, am_rt, am_set, cC_5, kX5_takeNumber]
  rw [hX5_takeNumber 20]
  have h0 : 0 < nI w := (nI_lt (a := 0) hn (by omega) : nI 0 < nI w)
  have key : ∀ Q : PO, MM 43 [.inr (.inr (some (5, 0)))] σ Q ↔ Q (some (.inl (-1))) σ := by
    intro Q
    rw [eX5_takePlain 20]
    simp only [am_run_s, bt, lf, am_in, am_ar, am_fit, am_ld, am_ct, Nat.reduceLT, Nat.reduceEqDiff, reduceIte, Nat.reduceAdd, Nat.reduceLeDiff, Nat.reduceSub, Bool.false_eq_true, if_true, if_false, ite_true, ite_false, List.length_cons, List.length_nil, Nat.zero_add, Nat.add_zero, and_true, true_and, true_or, or_true, and_self, Nat.le_refl, Nat.lt_irrefl, gI_sI, gL_sL, gQ_sQ, gI_sJ, gI_sL, gI_sQ, gL_sI, gL_sQ, gL_sJ, gQ_sI, gQ_sL, gQ_sJ, gN_sI, gN_sL, gN_sQ, gN_sJ, E_b2_0, E_cS_a, E_cS_b, E_cV_a, E_cV_b, E_c_0, E_dup_0, E_dup_1, E_getI_0, E_getR_0, E_iald_0, E_je_0, E_jmp_0, E_jz_0, E_kk, E_ldI_a, E_ldI_b, E_ldR_a, E_ldR_b, E_pop_0, E_pop_1, E_putI_0, E_rI_0, E_stI_0, aL_31, am_cc, am_nl, am_ok, am_pop, am_rt, am_set, cC_31, cC_5, cC_8, rR_600, rR_900, kX5_takePlain, kX5_takePlain_0, kX5_takePlain_1, hf]
  simp only [am_run_s, bt, lf, am_in, am_ar, am_fit, am_ld, am_ct, Nat.reduceLT, Nat.reduceEqDiff, reduceIte, Nat.reduceAdd, Nat.reduceLeDiff, Nat.reduceSub, Bool.false_eq_true, if_true, if_false, ite_true, ite_false, List.length_cons, List.length_nil, Nat.zero_add, Nat.add_zero, and_true, true_and, true_or, or_true, and_self, Nat.le_refl, Nat.lt_irrefl, gI_sI, gL_sL, gQ_sQ, gI_sJ, gI_sL, gI_sQ, gL_sI, gL_sQ, gL_sJ, gQ_sI, gQ_sL, gQ_sJ, gN_sI, gN_sL, gN_sQ, gN_sJ, E_b2_0, E_cV_a, E_cV_b, E_c_0, E_inc_a, E_inc_b, E_je_0, E_jl_0, E_jmp_0, E_kk, E_ldI_a, E_ldI_b, E_ldR_a, E_ldR_b, E_rI_0, E_stI_0, am_cc, am_nl, am_ok, am_pop, am_rt, am_set, cC_5, kX5_takeNumber, h0, ↓key]
