/-! ===== reading: the class, whole ===== -/
theorem c_readSum {σ : HS} {L : List Int32} {s : RS} {due r n : Int32} {v : Int64} {Q : PO} (hL : L.length ≤ 2000) (ha : ab L) (hT : TPX σ L) (hs : RV L s) (hR : RX σ s) (hm : gI σ 609 0 = due)
    (hF : ∀ σ' o, frm PRS σ σ' → rd5 L s due r n v = o → oxp σ' o.1 → gI σ' 606 0 = o.2.2.2.1 → o.2.1 = r ∧ o.2.2.1 = n ∧ o.2.2.2.2 = v → Q (some (.inl 0)) σ')
    (hS : ∀ σ' pl tk q, frm PRS σ σ' → pl ≤ L.length → gI σ' 603 0 = nI pl → gI σ' 602 0 = 0 → gI σ' 607 0 = nI tk → gI σ' 606 0 = q → rd5 L s due r n v = (((tailP L 10 0 pl).1, (tailP L 10 0 pl).2, tk), r, n, q, v) → Q (some (.inl 1)) σ') : MM 40 [.inr (.inr (some (5, 0)))] σ Q := by
  rw [eX5_readSum 34]
  simp only [am_run_s, bt, lf, am_in, am_ar, am_fit, am_ld, am_ct, Nat.reduceLT, Nat.reduceEqDiff, reduceIte, Nat.reduceAdd, Nat.reduceLeDiff, Nat.reduceSub, Bool.false_eq_true, if_true, if_false, ite_true, ite_false, List.length_cons, List.length_nil, Nat.zero_add, Nat.add_zero, and_true, true_and, true_or, or_true, and_self, Nat.le_refl, Nat.lt_irrefl, gI_sI, gL_sL, gQ_sQ, gI_sJ, gI_sL, gI_sQ, gL_sI, gL_sQ, gL_sJ, gQ_sI, gQ_sL, gQ_sJ, gN_sI, gN_sL, gN_sQ, gN_sJ, E_cV_a, E_cV_b, E_c_0, E_getI_0, E_je_0, E_jmp_0, E_jz_0, E_kk, E_ldI_a, E_ldI_b, E_ldR_a, E_ldR_b, E_putI_0, E_rZ_0, E_stI_0, am_cc, am_nl, am_ok, am_pop, am_rt, am_set, cC_5, kX5_readSum, hm]
  refine c_takeNumber (w := 15) (by omega) hL ha hT hs hR hm _ (by decide) (fun σ1 f1 r1 m1 => ?_)
  cases e : (tkN L 15 s 0 due).2 with
  | none =>
    rw [onum_n]
    simp only [am_run_s, bt, lf, am_in, am_ar, am_fit, am_ld, am_ct, Nat.reduceLT, Nat.reduceEqDiff, reduceIte, Nat.reduceAdd, Nat.reduceLeDiff, Nat.reduceSub, Bool.false_eq_true, if_true, if_false, ite_true, ite_false, List.length_cons, List.length_nil, Nat.zero_add, Nat.add_zero, and_true, true_and, true_or, or_true, and_self, Nat.le_refl, Nat.lt_irrefl, gI_sI, gL_sL, gQ_sQ, gI_sJ, gI_sL, gI_sQ, gL_sI, gL_sQ, gL_sJ, gQ_sI, gQ_sL, gQ_sJ, gN_sI, gN_sL, gN_sQ, gN_sJ, E_cV_a, E_cV_b, E_c_0, E_getI_0, E_je_0, E_jmp_0, E_jz_0, E_kk, E_ldI_a, E_ldI_b, E_ldR_a, E_ldR_b, E_putI_0, E_rZ_0, E_stI_0, am_cc, am_nl, am_ok, am_pop, am_rt, am_set, cC_5, kX5_readSum, am_b0]
    have g0 : frm PRS σ (sI σ1 606 0 (-1)) := (f1.mo PRS_le).si rfl
    refine hF _ (oF (tkN L 15 s 0 due).1 r n (-1) v) g0 (by unfold rd5; rw [e]) ⟨?_, ?_, ?_⟩ ?_ ⟨rfl, rfl, rfl⟩
    · simp only [gI_sI, gL_sL, gQ_sQ, gI_sJ, gI_sL, gI_sQ, gL_sI, gL_sQ, gL_sJ, gQ_sI, gQ_sL, gQ_sJ, gN_sI, gN_sL, gN_sQ, gN_sJ, Nat.reduceLT, Nat.reduceEqDiff, reduceIte, Nat.reduceAdd, Nat.reduceLeDiff, Nat.reduceSub, Bool.false_eq_true, if_true, if_false, ite_true, ite_false, List.length_cons, List.length_nil, Nat.zero_add, Nat.add_zero, and_true, true_and, true_or, or_true, and_self, Nat.le_refl, Nat.lt_irrefl]; exact r1.1
    · simp only [gI_sI, gL_sL, gQ_sQ, gI_sJ, gI_sL, gI_sQ, gL_sI, gL_sQ, gL_sJ, gQ_sI, gQ_sL, gQ_sJ, gN_sI, gN_sL, gN_sQ, gN_sJ, Nat.reduceLT, Nat.reduceEqDiff, reduceIte, Nat.reduceAdd, Nat.reduceLeDiff, Nat.reduceSub, Bool.false_eq_true, if_true, if_false, ite_true, ite_false, List.length_cons, List.length_nil, Nat.zero_add, Nat.add_zero, and_true, true_and, true_or, or_true, and_self, Nat.le_refl, Nat.lt_irrefl]; exact r1.2.1
    · simp only [gI_sI, gL_sL, gQ_sQ, gI_sJ, gI_sL, gI_sQ, gL_sI, gL_sQ, gL_sJ, gQ_sI, gQ_sL, gQ_sJ, gN_sI, gN_sL, gN_sQ, gN_sJ, Nat.reduceLT, Nat.reduceEqDiff, reduceIte, Nat.reduceAdd, Nat.reduceLeDiff, Nat.reduceSub, Bool.false_eq_true, if_true, if_false, ite_true, ite_false, List.length_cons, List.length_nil, Nat.zero_add, Nat.add_zero, and_true, true_and, true_or, or_true, and_self, Nat.le_refl, Nat.lt_irrefl]; exact r1.2.2.2.2
    · simp only [gI_sI, gL_sL, gQ_sQ, gI_sJ, gI_sL, gI_sQ, gL_sI, gL_sQ, gL_sJ, gQ_sI, gQ_sL, gQ_sJ, gN_sI, gN_sL, gN_sQ, gN_sJ, Nat.reduceLT, Nat.reduceEqDiff, reduceIte, Nat.reduceAdd, Nat.reduceLeDiff, Nat.reduceSub, Bool.false_eq_true, if_true, if_false, ite_true, ite_false, List.length_cons, List.length_nil, Nat.zero_add, Nat.add_zero, and_true, true_and, true_or, or_true, and_self, Nat.le_refl, Nat.lt_irrefl]; rfl
  | some p =>
    rw [onum_s]
    obtain ⟨y, y1, y2⟩ := tkN_v (x := 0) ha hs e
    have n1 : ¬ p.1 = -1 := by rw [y1]; exact num_ne (by omega)
    have v1 := RV_tkN ha hs e
    have h1 := tkN_1 e
    by_cases q : p.1 = due
    · have n2 : ¬ due = -1 := by rw [← q]; exact n1
      simp only [am_run_s, bt, lf, am_in, am_ar, am_fit, am_ld, am_ct, Nat.reduceLT, Nat.reduceEqDiff, reduceIte, Nat.reduceAdd, Nat.reduceLeDiff, Nat.reduceSub, Bool.false_eq_true, if_true, if_false, ite_true, ite_false, List.length_cons, List.length_nil, Nat.zero_add, Nat.add_zero, and_true, true_and, true_or, or_true, and_self, Nat.le_refl, Nat.lt_irrefl, gI_sI, gL_sL, gQ_sQ, gI_sJ, gI_sL, gI_sQ, gL_sI, gL_sQ, gL_sJ, gQ_sI, gQ_sL, gQ_sJ, gN_sI, gN_sL, gN_sQ, gN_sJ, E_cV_a, E_cV_b, E_c_0, E_getI_0, E_je_0, E_jmp_0, E_jz_0, E_kk, E_ldI_a, E_ldI_b, E_ldR_a, E_ldR_b, E_putI_0, E_rZ_0, E_stI_0, am_cc, am_nl, am_ok, am_pop, am_rt, am_set, cC_5, kX5_readSum, q, n2]
      have ed : rd5 L s due r n v = rd6 L (tkN L 15 s 0 due).1 r n p.1 v := by unfold rd5; rw [e]; dsimp only; rw [if_pos q]
      rw [ed] at hF hS
      have g0 : frm PRS σ (sI σ1 606 0 due) := (f1.mo PRS_le).si rfl
      refine c_tos (s := (tkN L 15 s 0 due).1) hL ha (hT.fx g0 rfl rfl) v1 ⟨?_, ?_, ?_, ?_, ?_⟩ (fun σ2 f2 r2 _ => ?_)
      · simp only [gI_sI, gL_sL, gQ_sQ, gI_sJ, gI_sL, gI_sQ, gL_sI, gL_sQ, gL_sJ, gQ_sI, gQ_sL, gQ_sJ, gN_sI, gN_sL, gN_sQ, gN_sJ, Nat.reduceLT, Nat.reduceEqDiff, reduceIte, Nat.reduceAdd, Nat.reduceLeDiff, Nat.reduceSub, Bool.false_eq_true, if_true, if_false, ite_true, ite_false, List.length_cons, List.length_nil, Nat.zero_add, Nat.add_zero, and_true, true_and, true_or, or_true, and_self, Nat.le_refl, Nat.lt_irrefl, r1.1]
      · simp only [gI_sI, gL_sL, gQ_sQ, gI_sJ, gI_sL, gI_sQ, gL_sI, gL_sQ, gL_sJ, gQ_sI, gQ_sL, gQ_sJ, gN_sI, gN_sL, gN_sQ, gN_sJ, Nat.reduceLT, Nat.reduceEqDiff, reduceIte, Nat.reduceAdd, Nat.reduceLeDiff, Nat.reduceSub, Bool.false_eq_true, if_true, if_false, ite_true, ite_false, List.length_cons, List.length_nil, Nat.zero_add, Nat.add_zero, and_true, true_and, true_or, or_true, and_self, Nat.le_refl, Nat.lt_irrefl, r1.2.1]
      · simp only [gI_sI, gL_sL, gQ_sQ, gI_sJ, gI_sL, gI_sQ, gL_sI, gL_sQ, gL_sJ, gQ_sI, gQ_sL, gQ_sJ, gN_sI, gN_sL, gN_sQ, gN_sJ, Nat.reduceLT, Nat.reduceEqDiff, reduceIte, Nat.reduceAdd, Nat.reduceLeDiff, Nat.reduceSub, Bool.false_eq_true, if_true, if_false, ite_true, ite_false, List.length_cons, List.length_nil, Nat.zero_add, Nat.add_zero, and_true, true_and, true_or, or_true, and_self, Nat.le_refl, Nat.lt_irrefl, r1.2.2.1]
      · simp only [gI_sI, gL_sL, gQ_sQ, gI_sJ, gI_sL, gI_sQ, gL_sI, gL_sQ, gL_sJ, gQ_sI, gQ_sL, gQ_sJ, gN_sI, gN_sL, gN_sQ, gN_sJ, Nat.reduceLT, Nat.reduceEqDiff, reduceIte, Nat.reduceAdd, Nat.reduceLeDiff, Nat.reduceSub, Bool.false_eq_true, if_true, if_false, ite_true, ite_false, List.length_cons, List.length_nil, Nat.zero_add, Nat.add_zero, and_true, true_and, true_or, or_true, and_self, Nat.le_refl, Nat.lt_irrefl, r1.2.2.2.1]
      · simp only [gI_sI, gL_sL, gQ_sQ, gI_sJ, gI_sL, gI_sQ, gL_sI, gL_sQ, gL_sJ, gQ_sI, gQ_sL, gQ_sJ, gN_sI, gN_sL, gN_sQ, gN_sJ, Nat.reduceLT, Nat.reduceEqDiff, reduceIte, Nat.reduceAdd, Nat.reduceLeDiff, Nat.reduceSub, Bool.false_eq_true, if_true, if_false, ite_true, ite_false, List.length_cons, List.length_nil, Nat.zero_add, Nat.add_zero, and_true, true_and, true_or, or_true, and_self, Nat.le_refl, Nat.lt_irrefl, r1.2.2.2.2]
      have g2 : frm PRS σ σ2 := g0.tr (f2.mo PRS_le)
      have s2 : gI σ2 606 0 = p.1 := by rw [f2.gi rfl]; simp only [gI_sI, gL_sL, gQ_sQ, gI_sJ, gI_sL, gI_sQ, gL_sI, gL_sQ, gL_sJ, gQ_sI, gQ_sL, gQ_sJ, gN_sI, gN_sL, gN_sQ, gN_sJ, Nat.reduceLT, Nat.reduceEqDiff, reduceIte, Nat.reduceAdd, Nat.reduceLeDiff, Nat.reduceSub, Bool.false_eq_true, if_true, if_false, ite_true, ite_false, List.length_cons, List.length_nil, Nat.zero_add, Nat.add_zero, and_true, true_and, true_or, or_true, and_self, Nat.le_refl, Nat.lt_irrefl]; exact q.symm
      by_cases q0 : (skp L (tkN L 15 s 0 due).1).2.1 = 0
      · rw [if_pos q0]
        simp only [am_run_s, bt, lf, am_in, am_ar, am_fit, am_ld, am_ct, Nat.reduceLT, Nat.reduceEqDiff, reduceIte, Nat.reduceAdd, Nat.reduceLeDiff, Nat.reduceSub, Bool.false_eq_true, if_true, if_false, ite_true, ite_false, List.length_cons, List.length_nil, Nat.zero_add, Nat.add_zero, and_true, true_and, true_or, or_true, and_self, Nat.le_refl, Nat.lt_irrefl, gI_sI, gL_sL, gQ_sQ, gI_sJ, gI_sL, gI_sQ, gL_sI, gL_sQ, gL_sJ, gQ_sI, gQ_sL, gQ_sJ, gN_sI, gN_sL, gN_sQ, gN_sJ, E_cV_a, E_cV_b, E_c_0, E_getI_0, E_je_0, E_jmp_0, E_jz_0, E_kk, E_ldI_a, E_ldI_b, E_ldR_a, E_ldR_b, E_putI_0, E_rZ_0, E_stI_0, am_cc, am_nl, am_ok, am_pop, am_rt, am_set, cC_5, kX5_readSum, i01, am_b1]
        have v2 := (RV_skp v1 ha q0).1
        refine hS σ2 _ _ p.1 g2 v2.1 r2.1 (by rw [r2.2.1]; exact q0) r2.2.2.2.2 s2 ?_
        unfold rd6; rw [if_pos q0]
      · rw [if_neg q0]
        simp only [am_run_s, bt, lf, am_in, am_ar, am_fit, am_ld, am_ct, Nat.reduceLT, Nat.reduceEqDiff, reduceIte, Nat.reduceAdd, Nat.reduceLeDiff, Nat.reduceSub, Bool.false_eq_true, if_true, if_false, ite_true, ite_false, List.length_cons, List.length_nil, Nat.zero_add, Nat.add_zero, and_true, true_and, true_or, or_true, and_self, Nat.le_refl, Nat.lt_irrefl, gI_sI, gL_sL, gQ_sQ, gI_sJ, gI_sL, gI_sQ, gL_sI, gL_sQ, gL_sJ, gQ_sI, gQ_sL, gQ_sJ, gN_sI, gN_sL, gN_sQ, gN_sJ, E_cV_a, E_cV_b, E_c_0, E_getI_0, E_je_0, E_jmp_0, E_jz_0, E_kk, E_ldI_a, E_ldI_b, E_ldR_a, E_ldR_b, E_putI_0, E_rZ_0, E_stI_0, am_cc, am_nl, am_ok, am_pop, am_rt, am_set, cC_5, kX5_readSum, am_b0]
        refine hF σ2 (oF (skp L (tkN L 15 s 0 due).1) r n p.1 v) g2 ?_ (r2.o _ _ _ _) s2 ⟨rfl, rfl, rfl⟩
        unfold rd6; rw [if_neg q0]
    · simp only [am_run_s, bt, lf, am_in, am_ar, am_fit, am_ld, am_ct, Nat.reduceLT, Nat.reduceEqDiff, reduceIte, Nat.reduceAdd, Nat.reduceLeDiff, Nat.reduceSub, Bool.false_eq_true, if_true, if_false, ite_true, ite_false, List.length_cons, List.length_nil, Nat.zero_add, Nat.add_zero, and_true, true_and, true_or, or_true, and_self, Nat.le_refl, Nat.lt_irrefl, gI_sI, gL_sL, gQ_sQ, gI_sJ, gI_sL, gI_sQ, gL_sI, gL_sQ, gL_sJ, gQ_sI, gQ_sL, gQ_sJ, gN_sI, gN_sL, gN_sQ, gN_sJ, E_cV_a, E_cV_b, E_c_0, E_getI_0, E_je_0, E_jmp_0, E_jz_0, E_kk, E_ldI_a, E_ldI_b, E_ldR_a, E_ldR_b, E_putI_0, E_rZ_0, E_stI_0, am_cc, am_nl, am_ok, am_pop, am_rt, am_set, cC_5, kX5_readSum, q, n1, ↓s_faultAtLatest, am_b0]
      have g0 : frm PRS σ (sI (sI (sI σ1 606 0 p.1) 603 0 (gI σ1 603 0 - 1)) 602 0 4) := (((f1.mo PRS_le).si rfl).si rfl).si rfl
      refine hF _ (((tkN L 15 s 0 due).1.1 - 1, 4, (tkN L 15 s 0 due).1.2.2.2.2), r, n, p.1, v) g0 (by unfold rd5; rw [e]; dsimp only; rw [if_neg q]) ⟨?_, ?_, ?_⟩ ?_ ⟨rfl, rfl, rfl⟩
      · simp only [gI_sI, gL_sL, gQ_sQ, gI_sJ, gI_sL, gI_sQ, gL_sI, gL_sQ, gL_sJ, gQ_sI, gQ_sL, gQ_sJ, gN_sI, gN_sL, gN_sQ, gN_sJ, Nat.reduceLT, Nat.reduceEqDiff, reduceIte, Nat.reduceAdd, Nat.reduceLeDiff, Nat.reduceSub, Bool.false_eq_true, if_true, if_false, ite_true, ite_false, List.length_cons, List.length_nil, Nat.zero_add, Nat.add_zero, and_true, true_and, true_or, or_true, and_self, Nat.le_refl, Nat.lt_irrefl, r1.1]
        rw [one', pk_sub h1]
      · simp only [gI_sI, gL_sL, gQ_sQ, gI_sJ, gI_sL, gI_sQ, gL_sI, gL_sQ, gL_sJ, gQ_sI, gQ_sL, gQ_sJ, gN_sI, gN_sL, gN_sQ, gN_sJ, Nat.reduceLT, Nat.reduceEqDiff, reduceIte, Nat.reduceAdd, Nat.reduceLeDiff, Nat.reduceSub, Bool.false_eq_true, if_true, if_false, ite_true, ite_false, List.length_cons, List.length_nil, Nat.zero_add, Nat.add_zero, and_true, true_and, true_or, or_true, and_self, Nat.le_refl, Nat.lt_irrefl]
      · simp only [gI_sI, gL_sL, gQ_sQ, gI_sJ, gI_sL, gI_sQ, gL_sI, gL_sQ, gL_sJ, gQ_sI, gQ_sL, gQ_sJ, gN_sI, gN_sL, gN_sQ, gN_sJ, Nat.reduceLT, Nat.reduceEqDiff, reduceIte, Nat.reduceAdd, Nat.reduceLeDiff, Nat.reduceSub, Bool.false_eq_true, if_true, if_false, ite_true, ite_false, List.length_cons, List.length_nil, Nat.zero_add, Nat.add_zero, and_true, true_and, true_or, or_true, and_self, Nat.le_refl, Nat.lt_irrefl]; exact r1.2.2.2.2
      · simp only [gI_sI, gL_sL, gQ_sQ, gI_sJ, gI_sL, gI_sQ, gL_sI, gL_sQ, gL_sJ, gQ_sI, gQ_sL, gQ_sJ, gN_sI, gN_sL, gN_sQ, gN_sJ, Nat.reduceLT, Nat.reduceEqDiff, reduceIte, Nat.reduceAdd, Nat.reduceLeDiff, Nat.reduceSub, Bool.false_eq_true, if_true, if_false, ite_true, ite_false, List.length_cons, List.length_nil, Nat.zero_add, Nat.add_zero, and_true, true_and, true_or, or_true, and_self, Nat.le_refl, Nat.lt_irrefl]
def PRA (f : Nat) : Bool := Nat.ble 601 f && Nat.ble f 611
theorem PRA_D (f : Nat) (h : PRA f = false) : PRD f = false := by
  cases e : PRD f with
  | false => rfl
  | true =>
    exfalso
    unfold PRD at e
    simp only [Bool.or_eq_true] at e
    rcases e with ((((e | e) | e) | e) | e) | e <;> (have e := Nat.eq_of_beq_eq_true e; subst e; revert h; decide)
theorem PRA_K (f : Nat) (h : PRA f = false) : PRK f = false := by
  unfold PRK
  rw [PRA_D f h, Bool.false_or]
  cases e : Nat.beq f 604 with
  | false => rfl
  | true => have e := Nat.eq_of_beq_eq_true e; subst e; revert h; decide
theorem PRA_C (f : Nat) (h : PRA f = false) : PRC f = false := by
  unfold PRC
  rw [PRA_D f h, Bool.false_or]
  cases e : Nat.beq f 605 with
  | false => rfl
  | true => have e := Nat.eq_of_beq_eq_true e; subst e; revert h; decide
theorem PRA_S (f : Nat) (h : PRA f = false) : PRS f = false := by
  unfold PRS
  rw [PRA_D f h, Bool.false_or]
  cases e : Nat.beq f 606 with
  | false => rfl
  | true => have e := Nat.eq_of_beq_eq_true e; subst e; revert h; decide
def rdX (σ : HS) (v : Int32) : HS := sI (sI (sI (sL (sI (sI (sI (sI (sI (sI (sI σ 601 0 1) 602 0 0) 603 0 v) 604 0 (-1)) 605 0 (-1)) 606 0 (-1)) 607 0 0) 608 0 0) 609 0 0) 610 0 0) 611 0 (-1)
theorem h_readFrom (n : Nat) {Q : PO} {pc : Nat} {ls : ALs} {st : List AV} {σ : HS} {a b : Nat} : am_T (kX5_readFrom S1) MM Q pc ls st σ a b ↔ (kX5_readFrom S1 pc).2 MM Q (am_run (kX5_readFrom S1) MM Q n) ls st σ a b := am_go (gX5_readFrom S1) MM_mo n
theorem pre_readFrom (v : Int32) (σ : HS) (Q : PO) : MM 35 [.inr (.inr (some (5, 0))), .inl v] σ Q ↔ am_T (kX5_readFrom S1) MM Q 55 [some (.inr (.inr (some (5, 0)))), some (.inl v)] [] (rdX σ v) 0 0 := by
  rw [eX5_readFrom 33]
  simp only [am_run_s, bt, lf, am_in, am_ar, am_fit, am_ld, am_ct, Nat.reduceLT, Nat.reduceEqDiff, reduceIte, Nat.reduceAdd, Nat.reduceLeDiff, Nat.reduceSub, Bool.false_eq_true, if_true, if_false, ite_true, ite_false, List.length_cons, List.length_nil, Nat.zero_add, Nat.add_zero, and_true, true_and, true_or, or_true, and_self, Nat.le_refl, Nat.lt_irrefl, gI_sI, gL_sL, gQ_sQ, gI_sJ, gI_sL, gI_sQ, gL_sI, gL_sQ, gL_sJ, gQ_sI, gQ_sL, gQ_sJ, gN_sI, gN_sL, gN_sQ, gN_sJ, E_cV_a, E_cV_b, E_c_0, E_jz_0, E_kk, E_ldI_a, E_ldI_b, E_ldR_a, E_ldR_b, E_putI_0, E_putL_0, E_putZ_0, E_rV_0, am_cc, am_pop, am_rt, cC_5, kX5_readFrom, kX5_readFrom_0, kX5_readFrom_1, am_b1]
  exact Iff.rfl
/-- what a reading leaves -/
def OX (σ : HS) (o : OUT) : Prop := oxp σ o.1 ∧ gI σ 604 0 = o.2.1 ∧ gI σ 605 0 = o.2.2.1 ∧ gI σ 606 0 = o.2.2.2.1 ∧ gL σ 608 0 = o.2.2.2.2 ∧ gI σ 601 0 = 1
theorem c_readFrom {σ : HS} {L : List Int32} {fr : Nat} {Q : PO} (hL : L.length ≤ 2000) (ha : ab L) (hT : TPX σ L) (ht : v_tai σ) (hfr : fr ≤ L.length) (hQ : ∀ σ', fr2 PRA PRL σ σ' → OX σ' (rd1 L fr) → Q none σ') : MM 35 [.inr (.inr (some (5, 0))), .inl (nI fr)] σ Q := by
  rw [pre_readFrom, h_readFrom 24]
  simp only [am_run_s, bt, lf, am_in, am_ar, am_fit, am_ld, am_ct, Nat.reduceLT, Nat.reduceEqDiff, reduceIte, Nat.reduceAdd, Nat.reduceLeDiff, Nat.reduceSub, Bool.false_eq_true, if_true, if_false, ite_true, ite_false, List.length_cons, List.length_nil, Nat.zero_add, Nat.add_zero, and_true, true_and, true_or, or_true, and_self, Nat.le_refl, Nat.lt_irrefl, gI_sI, gL_sL, gQ_sQ, gI_sJ, gI_sL, gI_sQ, gL_sI, gL_sQ, gL_sJ, gQ_sI, gQ_sL, gQ_sJ, gN_sI, gN_sL, gN_sQ, gN_sJ, E_cV_a, E_cV_b, E_c_0, E_jz_0, E_kk, E_ldI_a, E_ldI_b, E_ldR_a, E_ldR_b, E_putI_0, E_putL_0, E_putZ_0, E_rV_0, am_cc, am_pop, am_rt, cC_5, kX5_readFrom, kX5_readFrom_0, kX5_readFrom_1]
  have g0 : fr2 PRA PRL σ (rdX σ (nI fr)) := ((((((((((fr2.rf.si rfl).si rfl).si rfl).si rfl).si rfl).si rfl).si rfl).sl rfl).si rfl).si rfl).si rfl
  have a1 : RX (rdX σ (nI fr)) (rs0 fr) := ⟨rfl, rfl, rfl, rfl, rfl⟩
  have a2 : gI (rdX σ (nI fr)) 609 0 = 0 := rfl
  have a3 : gI (rdX σ (nI fr)) 604 0 = -1 := rfl
  have a4 : gI (rdX σ (nI fr)) 605 0 = -1 := rfl
  have a5 : gI (rdX σ (nI fr)) 606 0 = -1 := rfl
  have a6 : gL (rdX σ (nI fr)) 608 0 = 0 := rfl
  have a7 : gI (rdX σ (nI fr)) 601 0 = 1 := rfl
  have hT0 : TPX (rdX σ (nI fr)) L := hT
  have ht0 : v_tai (rdX σ (nI fr)) := ht
  revert g0 a1 a2 a3 a4 a5 a6 a7 hT0 ht0
  generalize rdX σ (nI fr) = x
  intro g0 a1 a2 a3 a4 a5 a6 a7 hT0 ht0
  refine c_readStart hL ha hT0 hfr a1 a2 (fun σ1 o f1 e1 p1 p2 => ?_) (fun σ1 s1 sm1 f1 v1 r1 m1 e1 => ?_)
  · simp only [am_run_s, bt, lf, am_in, am_ar, am_fit, am_ld, am_ct, Nat.reduceLT, Nat.reduceEqDiff, reduceIte, Nat.reduceAdd, Nat.reduceLeDiff, Nat.reduceSub, Bool.false_eq_true, if_true, if_false, ite_true, ite_false, List.length_cons, List.length_nil, Nat.zero_add, Nat.add_zero, and_true, true_and, true_or, or_true, and_self, Nat.le_refl, Nat.lt_irrefl, gI_sI, gL_sL, gQ_sQ, gI_sJ, gI_sL, gI_sQ, gL_sI, gL_sQ, gL_sJ, gQ_sI, gQ_sL, gQ_sJ, gN_sI, gN_sL, gN_sQ, gN_sJ, E_cV_a, E_cV_b, E_c_0, E_jz_0, E_kk, E_ldI_a, E_ldI_b, E_ldR_a, E_ldR_b, E_putI_0, E_putL_0, E_putZ_0, E_rV_0, am_cc, am_pop, am_rt, cC_5, kX5_readFrom, kX5_readFrom_0, kX5_readFrom_1]
    refine hQ σ1 (g0.tr (f1.f2 PRA_D)) ?_
    rw [e1]
    refine ⟨p1, ?_, ?_, ?_, ?_, ?_⟩
    · rw [f1.gi rfl, a3, p2]
    · rw [f1.gi rfl, a4, p2]
    · rw [f1.gi rfl, a5, p2]
    · rw [f1.gl, a6, p2]
    · rw [f1.gi rfl, a7]
  rw [e1] at hQ
  simp only [am_run_s, bt, lf, am_in, am_ar, am_fit, am_ld, am_ct, Nat.reduceLT, Nat.reduceEqDiff, reduceIte, Nat.reduceAdd, Nat.reduceLeDiff, Nat.reduceSub, Bool.false_eq_true, if_true, if_false, ite_true, ite_false, List.length_cons, List.length_nil, Nat.zero_add, Nat.add_zero, and_true, true_and, true_or, or_true, and_self, Nat.le_refl, Nat.lt_irrefl, gI_sI, gL_sL, gQ_sQ, gI_sJ, gI_sL, gI_sQ, gL_sI, gL_sQ, gL_sJ, gQ_sI, gQ_sL, gQ_sJ, gN_sI, gN_sL, gN_sQ, gN_sJ, E_cV_a, E_cV_b, E_c_0, E_jz_0, E_kk, E_ldI_a, E_ldI_b, E_ldR_a, E_ldR_b, E_putI_0, E_putL_0, E_putZ_0, E_rV_0, am_cc, am_pop, am_rt, cC_5, kX5_readFrom, kX5_readFrom_0, kX5_readFrom_1, i01]
  have hT1 := hT0.fx f1 rfl rfl
  refine c_readRank hL ha hT1 v1 r1 m1 (fun σ2 o f2 e2 p1 p2 => ?_) (fun σ2 s2 sm2 rk f2 v2 r2 m2 k2 e2 => ?_)
  · simp only [am_run_s, bt, lf, am_in, am_ar, am_fit, am_ld, am_ct, Nat.reduceLT, Nat.reduceEqDiff, reduceIte, Nat.reduceAdd, Nat.reduceLeDiff, Nat.reduceSub, Bool.false_eq_true, if_true, if_false, ite_true, ite_false, List.length_cons, List.length_nil, Nat.zero_add, Nat.add_zero, and_true, true_and, true_or, or_true, and_self, Nat.le_refl, Nat.lt_irrefl, gI_sI, gL_sL, gQ_sQ, gI_sJ, gI_sL, gI_sQ, gL_sI, gL_sQ, gL_sJ, gQ_sI, gQ_sL, gQ_sJ, gN_sI, gN_sL, gN_sQ, gN_sJ, E_cV_a, E_cV_b, E_c_0, E_jz_0, E_kk, E_ldI_a, E_ldI_b, E_ldR_a, E_ldR_b, E_putI_0, E_putL_0, E_putZ_0, E_rV_0, am_cc, am_pop, am_rt, cC_5, kX5_readFrom, kX5_readFrom_0, kX5_readFrom_1]
    refine hQ σ2 ((g0.tr (f1.f2 PRA_D)).tr (f2.f2 PRA_D)) ?_
    rw [e2]
    refine ⟨p1, ?_, ?_, ?_, ?_, ?_⟩
    · rw [f2.gi rfl, f1.gi rfl, a3, p2]
    · rw [f2.gi rfl, f1.gi rfl, a4, p2]
    · rw [f2.gi rfl, f1.gi rfl, a5, p2]
    · rw [f2.gl, f1.gl, a6, p2]
    · rw [f2.gi rfl, f1.gi rfl, a7]
  rw [e2] at hQ
  simp only [am_run_s, bt, lf, am_in, am_ar, am_fit, am_ld, am_ct, Nat.reduceLT, Nat.reduceEqDiff, reduceIte, Nat.reduceAdd, Nat.reduceLeDiff, Nat.reduceSub, Bool.false_eq_true, if_true, if_false, ite_true, ite_false, List.length_cons, List.length_nil, Nat.zero_add, Nat.add_zero, and_true, true_and, true_or, or_true, and_self, Nat.le_refl, Nat.lt_irrefl, gI_sI, gL_sL, gQ_sQ, gI_sJ, gI_sL, gI_sQ, gL_sI, gL_sQ, gL_sJ, gQ_sI, gQ_sL, gQ_sJ, gN_sI, gN_sL, gN_sQ, gN_sJ, E_cV_a, E_cV_b, E_c_0, E_jz_0, E_kk, E_ldI_a, E_ldI_b, E_ldR_a, E_ldR_b, E_putI_0, E_putL_0, E_putZ_0, E_rV_0, am_cc, am_pop, am_rt, cC_5, kX5_readFrom, kX5_readFrom_0, kX5_readFrom_1, i01]
  have hT2 := hT1.fx f2 rfl rfl
  have g2 := (g0.tr (f1.f2 PRA_D)).tr (f2.f2 PRA_K)
  refine c_readCount (r := rk) hL ha hT2 v2 r2 m2 (fun σ3 o f3 e3 p1 p2 p3 => ?_) (fun σ3 s3 sm3 k f3 v3 r3 m3 n3 k8 e3 => ?_)
  · simp only [am_run_s, bt, lf, am_in, am_ar, am_fit, am_ld, am_ct, Nat.reduceLT, Nat.reduceEqDiff, reduceIte, Nat.reduceAdd, Nat.reduceLeDiff, Nat.reduceSub, Bool.false_eq_true, if_true, if_false, ite_true, ite_false, List.length_cons, List.length_nil, Nat.zero_add, Nat.add_zero, and_true, true_and, true_or, or_true, and_self, Nat.le_refl, Nat.lt_irrefl, gI_sI, gL_sL, gQ_sQ, gI_sJ, gI_sL, gI_sQ, gL_sI, gL_sQ, gL_sJ, gQ_sI, gQ_sL, gQ_sJ, gN_sI, gN_sL, gN_sQ, gN_sJ, E_cV_a, E_cV_b, E_c_0, E_jz_0, E_kk, E_ldI_a, E_ldI_b, E_ldR_a, E_ldR_b, E_putI_0, E_putL_0, E_putZ_0, E_rV_0, am_cc, am_pop, am_rt, cC_5, kX5_readFrom, kX5_readFrom_0, kX5_readFrom_1]
    refine hQ σ3 (g2.tr (f3.f2 PRA_C)) ?_
    rw [e3]
    refine ⟨p1, ?_, p2, ?_, ?_, ?_⟩
    · rw [f3.gi rfl, k2, p3.1]
    · rw [f3.gi rfl, f2.gi rfl, f1.gi rfl, a5, p3.2]
    · rw [f3.gl, f2.gl, f1.gl, a6, p3.2]
    · rw [f3.gi rfl, f2.gi rfl, f1.gi rfl, a7]
  rw [e3] at hQ
  simp only [am_run_s, bt, lf, am_in, am_ar, am_fit, am_ld, am_ct, Nat.reduceLT, Nat.reduceEqDiff, reduceIte, Nat.reduceAdd, Nat.reduceLeDiff, Nat.reduceSub, Bool.false_eq_true, if_true, if_false, ite_true, ite_false, List.length_cons, List.length_nil, Nat.zero_add, Nat.add_zero, and_true, true_and, true_or, or_true, and_self, Nat.le_refl, Nat.lt_irrefl, gI_sI, gL_sL, gQ_sQ, gI_sJ, gI_sL, gI_sQ, gL_sI, gL_sQ, gL_sJ, gQ_sI, gQ_sL, gQ_sJ, gN_sI, gN_sL, gN_sQ, gN_sJ, E_cV_a, E_cV_b, E_c_0, E_jz_0, E_kk, E_ldI_a, E_ldI_b, E_ldR_a, E_ldR_b, E_putI_0, E_putL_0, E_putZ_0, E_rV_0, am_cc, am_pop, am_rt, cC_5, kX5_readFrom, kX5_readFrom_0, kX5_readFrom_1, i01]
  have hT3 := hT2.fx f3 rfl rfl
  have g3 := g2.tr (f3.f2 PRA_C)
  have b3 : gL σ3 608 0 = 0 := by rw [f3.gl, f2.gl, f1.gl, a6]
  refine c_readBytes (r := rk) k8 hL ha hT3 v3 r3 m3 n3 b3 (fun σ4 o f4 e4 p1 p2 p3 => ?_) (fun σ4 s4 sm4 v f4 v4 r4 m4 w4 e4 => ?_)
  · simp only [am_run_s, bt, lf, am_in, am_ar, am_fit, am_ld, am_ct, Nat.reduceLT, Nat.reduceEqDiff, reduceIte, Nat.reduceAdd, Nat.reduceLeDiff, Nat.reduceSub, Bool.false_eq_true, if_true, if_false, ite_true, ite_false, List.length_cons, List.length_nil, Nat.zero_add, Nat.add_zero, and_true, true_and, true_or, or_true, and_self, Nat.le_refl, Nat.lt_irrefl, gI_sI, gL_sL, gQ_sQ, gI_sJ, gI_sL, gI_sQ, gL_sI, gL_sQ, gL_sJ, gQ_sI, gQ_sL, gQ_sJ, gN_sI, gN_sL, gN_sQ, gN_sJ, E_cV_a, E_cV_b, E_c_0, E_jz_0, E_kk, E_ldI_a, E_ldI_b, E_ldR_a, E_ldR_b, E_putI_0, E_putL_0, E_putZ_0, E_rV_0, am_cc, am_pop, am_rt, cC_5, kX5_readFrom, kX5_readFrom_0, kX5_readFrom_1]
    refine hQ σ4 (g3.tr (f4.mo PRA_D)) ?_
    rw [e4]
    refine ⟨p1, ?_, ?_, ?_, p2, ?_⟩
    · rw [f4.gi rfl, f3.gi rfl, k2, p3.1]
    · rw [f4.gi rfl, n3, p3.2.1]
    · rw [f4.gi rfl, f3.gi rfl, f2.gi rfl, f1.gi rfl, a5, p3.2.2]
    · rw [f4.gi rfl, f3.gi rfl, f2.gi rfl, f1.gi rfl, a7]
  rw [e4] at hQ
  simp only [am_run_s, bt, lf, am_in, am_ar, am_fit, am_ld, am_ct, Nat.reduceLT, Nat.reduceEqDiff, reduceIte, Nat.reduceAdd, Nat.reduceLeDiff, Nat.reduceSub, Bool.false_eq_true, if_true, if_false, ite_true, ite_false, List.length_cons, List.length_nil, Nat.zero_add, Nat.add_zero, and_true, true_and, true_or, or_true, and_self, Nat.le_refl, Nat.lt_irrefl, gI_sI, gL_sL, gQ_sQ, gI_sJ, gI_sL, gI_sQ, gL_sI, gL_sQ, gL_sJ, gQ_sI, gQ_sL, gQ_sJ, gN_sI, gN_sL, gN_sQ, gN_sJ, E_cV_a, E_cV_b, E_c_0, E_jz_0, E_kk, E_ldI_a, E_ldI_b, E_ldR_a, E_ldR_b, E_putI_0, E_putL_0, E_putZ_0, E_rV_0, am_cc, am_pop, am_rt, cC_5, kX5_readFrom, kX5_readFrom_0, kX5_readFrom_1, i01]
  have hT4 := hT3.f2 f4 rfl rfl
  have g4 := g3.tr (f4.mo PRA_D)
  refine c_readSum (r := rk) (n := nI k) (v := v) hL ha hT4 v4 r4 m4 (fun σ5 o f5 e5 p1 p2 p3 => ?_) (fun σ5 pl tk q f5 h5 q1 q2 q3 q4 e5 => ?_)
  · simp only [am_run_s, bt, lf, am_in, am_ar, am_fit, am_ld, am_ct, Nat.reduceLT, Nat.reduceEqDiff, reduceIte, Nat.reduceAdd, Nat.reduceLeDiff, Nat.reduceSub, Bool.false_eq_true, if_true, if_false, ite_true, ite_false, List.length_cons, List.length_nil, Nat.zero_add, Nat.add_zero, and_true, true_and, true_or, or_true, and_self, Nat.le_refl, Nat.lt_irrefl, gI_sI, gL_sL, gQ_sQ, gI_sJ, gI_sL, gI_sQ, gL_sI, gL_sQ, gL_sJ, gQ_sI, gQ_sL, gQ_sJ, gN_sI, gN_sL, gN_sQ, gN_sJ, E_cV_a, E_cV_b, E_c_0, E_jz_0, E_kk, E_ldI_a, E_ldI_b, E_ldR_a, E_ldR_b, E_putI_0, E_putL_0, E_putZ_0, E_rV_0, am_cc, am_pop, am_rt, cC_5, kX5_readFrom, kX5_readFrom_0, kX5_readFrom_1]
    refine hQ σ5 (g4.tr (f5.f2 PRA_S)) ?_
    rw [e5]
    refine ⟨p1, ?_, ?_, p2, ?_, ?_⟩
    · rw [f5.gi rfl, f4.gi rfl, f3.gi rfl, k2, p3.1]
    · rw [f5.gi rfl, f4.gi rfl, n3, p3.2.1]
    · rw [f5.gl, w4, p3.2.2]
    · rw [f5.gi rfl, f4.gi rfl, f3.gi rfl, f2.gi rfl, f1.gi rfl, a7]
  rw [e5] at hQ
  simp only [am_run_s, bt, lf, am_in, am_ar, am_fit, am_ld, am_ct, Nat.reduceLT, Nat.reduceEqDiff, reduceIte, Nat.reduceAdd, Nat.reduceLeDiff, Nat.reduceSub, Bool.false_eq_true, if_true, if_false, ite_true, ite_false, List.length_cons, List.length_nil, Nat.zero_add, Nat.add_zero, and_true, true_and, true_or, or_true, and_self, Nat.le_refl, Nat.lt_irrefl, gI_sI, gL_sL, gQ_sQ, gI_sJ, gI_sL, gI_sQ, gL_sI, gL_sQ, gL_sJ, gQ_sI, gQ_sL, gQ_sJ, gN_sI, gN_sL, gN_sQ, gN_sJ, E_cV_a, E_cV_b, E_c_0, E_jz_0, E_kk, E_ldI_a, E_ldI_b, E_ldR_a, E_ldR_b, E_putI_0, E_putL_0, E_putZ_0, E_rV_0, am_cc, am_pop, am_rt, cC_5, kX5_readFrom, kX5_readFrom_0, kX5_readFrom_1, i01]
  have hT5 := hT4.fx f5 rfl rfl
  have g5 := g4.tr (f5.f2 (R := PRL) PRA_S)
  rw [eX5_readTail 10]
  simp only [am_run_s, bt, lf, am_in, am_ar, am_fit, am_ld, am_ct, Nat.reduceLT, Nat.reduceEqDiff, reduceIte, Nat.reduceAdd, Nat.reduceLeDiff, Nat.reduceSub, Bool.false_eq_true, if_true, if_false, ite_true, ite_false, List.length_cons, List.length_nil, Nat.zero_add, Nat.add_zero, and_true, true_and, true_or, or_true, and_self, Nat.le_refl, Nat.lt_irrefl, gI_sI, gL_sL, gQ_sQ, gI_sJ, gI_sL, gI_sQ, gL_sI, gL_sQ, gL_sJ, gQ_sI, gQ_sL, gQ_sJ, gN_sI, gN_sL, gN_sQ, gN_sJ, E_alen_0, E_b2_0, E_cV_a, E_cV_b, E_c_0, E_dup_0, E_dup_1, E_getI_0, E_getR_0, E_iald_0, E_inc_a, E_inc_b, E_je_0, E_jl_0, E_jmp_0, E_jz_0, E_kk, E_ldI_a, E_ldI_b, E_ldR_a, E_ldR_b, E_pop_0, E_pop_1, E_putI_0, E_rV_0, E_stI_0, aL_21, aL_31, am_cc, am_nl, am_ok, am_pop, am_rt, am_set, cC_21, cC_31, cC_5, cC_8, rR_600, rR_900, kX5_readTail]
  have gx : ∀ j, gI σ5 21 j = gI x 21 j := fun j => by rw [f5.gi rfl, f4.gi rfl, f3.gi rfl, f2.gi rfl, f1.gi rfl]
  refine l_readTail hL 10 0 pl σ5 (by omega) h5 hT5 (fun j hj => by rw [gx]; exact ht0 j hj) q1 q2 (fun σ6 f6 t1 t2 t3 => ?_)
  simp only [am_run_s, bt, lf, am_in, am_ar, am_fit, am_ld, am_ct, Nat.reduceLT, Nat.reduceEqDiff, reduceIte, Nat.reduceAdd, Nat.reduceLeDiff, Nat.reduceSub, Bool.false_eq_true, if_true, if_false, ite_true, ite_false, List.length_cons, List.length_nil, Nat.zero_add, Nat.add_zero, and_true, true_and, true_or, or_true, and_self, Nat.le_refl, Nat.lt_irrefl, gI_sI, gL_sL, gQ_sQ, gI_sJ, gI_sL, gI_sQ, gL_sI, gL_sQ, gL_sJ, gQ_sI, gQ_sL, gQ_sJ, gN_sI, gN_sL, gN_sQ, gN_sJ, E_cV_a, E_cV_b, E_c_0, E_jz_0, E_kk, E_ldI_a, E_ldI_b, E_ldR_a, E_ldR_b, E_putI_0, E_putL_0, E_putZ_0, E_rV_0, am_cc, am_pop, am_rt, cC_5, kX5_readFrom, kX5_readFrom_0, kX5_readFrom_1]
  refine hQ σ6 (g5.tr (f6.f2 PRA_D)) ⟨⟨t1, t2, by rw [t3, q3]⟩, ?_, ?_, ?_, ?_, ?_⟩
  · rw [f6.gi rfl, f5.gi rfl, f4.gi rfl, f3.gi rfl, k2]
  · rw [f6.gi rfl, f5.gi rfl, f4.gi rfl, n3]
  · rw [f6.gi rfl, q4]
  · rw [f6.gl, f5.gl, w4]
  · rw [f6.gi rfl, f5.gi rfl, f4.gi rfl, f3.gi rfl, f2.gi rfl, f1.gi rfl, a7]
