/-! ===== read ===== -/
def PMR (f : Nat) : Bool := Nat.ble 1331 f && Nat.ble f 1341
theorem PMR_D (f : Nat) (h : PMR f = false) : PMD f = false := by
  cases e : PMD f with
  | false => rfl
  | true =>
    exfalso
    unfold PMD at e
    simp only [Bool.or_eq_true] at e
    rcases e with ((((e | e) | e) | e) | e) | e <;> (have e := Nat.eq_of_beq_eq_true e; subst e; revert h; decide)
theorem PMR_K (f : Nat) (h : PMR f = false) : PMK f = false := by
  unfold PMK
  rw [PMR_D f h, Bool.false_or]
  cases e : Nat.beq f 1336 with
  | false => rfl
  | true => have e := Nat.eq_of_beq_eq_true e; subst e; revert h; decide
theorem PMR_C (f : Nat) (h : PMR f = false) : PMC f = false := by
  unfold PMC
  rw [PMR_D f h, Bool.false_or]
  cases e : Nat.beq f 1337 with
  | false => rfl
  | true => have e := Nat.eq_of_beq_eq_true e; subst e; revert h; decide
def mdX (σ : HS) (v : Int32) : HS := sL (sI (sI (sI (sI (sI (sI (sI (sI (sI (sI σ 1341 0 1) 1331 0 v) 1332 0 0) 1333 0 0) 1334 0 (-1)) 1335 0 0) 1336 0 (-1)) 1337 0 (-1)) 1338 0 0) 1339 0 (-1)) 1340 0 0
theorem h_readM (n : Nat) {Q : PO} {pc : Nat} {ls : ALs} {st : List AV} {σ : HS} {a b : Nat} : am_T (kX12_read S1) MM Q pc ls st σ a b ↔ (kX12_read S1 pc).2 MM Q (am_run (kX12_read S1) MM Q n) ls st σ a b := am_go (gX12_read S1) MM_mo n
theorem pre_readM (v : Int32) (σ : HS) (Q : PO) (h : ¬ v < 0 ∧ ¬ gI σ 1330 0 < v) : MM 172 [.inr (.inr (some (12, 0))), .inl v] σ Q ↔ am_T (kX12_read S1) MM Q 76 [some (.inr (.inr (some (12, 0)))), some (.inl v), none, none] [] (mdX σ v) 0 0 := by
  rw [eX12_read 41]
  simp only [am_run_s, bt, lf, am_in, am_ar, am_fit, am_ld, am_ct, Nat.reduceLT, Nat.reduceEqDiff, reduceIte, Nat.reduceAdd, Nat.reduceLeDiff, Nat.reduceSub, Bool.false_eq_true, if_true, if_false, ite_true, ite_false, List.length_cons, List.length_nil, Nat.zero_add, Nat.add_zero, and_true, true_and, true_or, or_true, and_self, Nat.le_refl, Nat.lt_irrefl, gI_sI, gL_sL, gQ_sQ, gI_sJ, gI_sL, gI_sQ, gL_sI, gL_sQ, gL_sJ, gQ_sI, gQ_sL, gQ_sJ, gN_sI, gN_sL, gN_sQ, gN_sJ, E_b2_0, E_cS_a, E_cS_b, E_cV_a, E_cV_b, E_c_0, E_getI_0, E_i2l_0, E_je_0, E_jz_0, E_kk, E_ldI_a, E_ldI_b, E_ldR_a, E_ldR_b, E_putI_0, E_putL_0, E_putZ_0, E_rI_0, E_stI_0, am_cc, am_nl, am_ok, am_pop, am_rt, am_set, cC_12, kX12_read, kX12_read_0, kX12_read_1, kX12_read_2, am_run_z, ↓s_isIn0, bI_z, h, am_b1, not_true_eq_false, not_false_eq_true]
  exact Iff.rfl
/-- what a reading leaves -/
def OM (σ : HS) (o : OUT) : Prop := omp σ o.1 ∧ gI σ 1336 0 = o.2.1 ∧ gI σ 1337 0 = o.2.2.1 ∧ gI σ 1339 0 = o.2.2.2.1 ∧ gL σ 1340 0 = o.2.2.2.2 ∧ gI σ 1341 0 = 1
theorem c_readM {σ : HS} {L : List Int32} {fr : Nat} {Q : PO} (hL : L.length ≤ 2000) (ha : ab L) (hT : TPM σ L) (hfr : fr ≤ L.length) (hQ : ∀ σ', fr2 PMR PML σ σ' → OM σ' (rd1 L fr) → Q (some (.inl (rd1 L fr).1.2.1)) σ') : MM 172 [.inr (.inr (some (12, 0))), .inl (nI fr)] σ Q := by
  rw [pre_readM _ _ _ ⟨nI_pos (by omega), by rw [hT.1]; exact nI_nlt (by omega) (by omega)⟩]
  have g0 : fr2 PMR PML σ (mdX σ (nI fr)) := ((((((((((fr2.rf.si rfl).si rfl).si rfl).si rfl).si rfl).si rfl).si rfl).si rfl).si rfl).si rfl).sl rfl
  have a1 : RMd (mdX σ (nI fr)) (rs0 fr) := ⟨rfl, rfl, rfl, rfl, rfl⟩
  have a2 : gI (mdX σ (nI fr)) 1335 0 = 0 := rfl
  have a3 : gI (mdX σ (nI fr)) 1336 0 = -1 := rfl
  have a4 : gI (mdX σ (nI fr)) 1337 0 = -1 := rfl
  have a5 : gI (mdX σ (nI fr)) 1339 0 = -1 := rfl
  have a6 : gL (mdX σ (nI fr)) 1340 0 = 0 := rfl
  have a7 : gI (mdX σ (nI fr)) 1341 0 = 1 := rfl
  have hT0 : TPM (mdX σ (nI fr)) L := hT
  revert g0 a1 a2 a3 a4 a5 a6 a7 hT0
  generalize mdX σ (nI fr) = x
  intro g0 a1 a2 a3 a4 a5 a6 a7 hT0
  rw [h_readM 3]
  simp only [am_run_s, bt, lf, am_in, am_ar, am_fit, am_ld, am_ct, Nat.reduceLT, Nat.reduceEqDiff, reduceIte, Nat.reduceAdd, Nat.reduceLeDiff, Nat.reduceSub, Bool.false_eq_true, if_true, if_false, ite_true, ite_false, List.length_cons, List.length_nil, Nat.zero_add, Nat.add_zero, and_true, true_and, true_or, or_true, and_self, Nat.le_refl, Nat.lt_irrefl, gI_sI, gL_sL, gQ_sQ, gI_sJ, gI_sL, gI_sQ, gL_sI, gL_sQ, gL_sJ, gQ_sI, gQ_sL, gQ_sJ, gN_sI, gN_sL, gN_sQ, gN_sJ, E_b2_0, E_cS_a, E_cS_b, E_cV_a, E_cV_b, E_c_0, E_getI_0, E_i2l_0, E_je_0, E_jz_0, E_kk, E_ldI_a, E_ldI_b, E_ldR_a, E_ldR_b, E_putI_0, E_putL_0, E_putZ_0, E_rI_0, E_stI_0, am_cc, am_nl, am_ok, am_pop, am_rt, am_set, cC_12, kX12_read, kX12_read_0, kX12_read_1, kX12_read_2, am_run_z]
  refine c_takes (w := 1) b1 (by omega) hL ha hT0 (rs0_v hfr) a1 (fun _ => a2) _ (by decide) (fun σ1 u1 f1 r1 m1 _ w1 => ?_)
  simp only [am_run_s, bt, lf, am_in, am_ar, am_fit, am_ld, am_ct, Nat.reduceLT, Nat.reduceEqDiff, reduceIte, Nat.reduceAdd, Nat.reduceLeDiff, Nat.reduceSub, Bool.false_eq_true, if_true, if_false, ite_true, ite_false, List.length_cons, List.length_nil, Nat.zero_add, Nat.add_zero, and_true, true_and, true_or, or_true, and_self, Nat.le_refl, Nat.lt_irrefl, gI_sI, gL_sL, gQ_sQ, gI_sJ, gI_sL, gI_sQ, gL_sI, gL_sQ, gL_sJ, gQ_sI, gQ_sL, gQ_sJ, gN_sI, gN_sL, gN_sQ, gN_sJ, E_b2_0, E_cS_a, E_cS_b, E_cV_a, E_cV_b, E_c_0, E_getI_0, E_i2l_0, E_je_0, E_jz_0, E_kk, E_ldI_a, E_ldI_b, E_ldR_a, E_ldR_b, E_putI_0, E_putL_0, E_putZ_0, E_rI_0, E_stI_0, am_cc, am_nl, am_ok, am_pop, am_rt, am_set, cC_12, kX12_read, kX12_read_0, kX12_read_1, kX12_read_2, am_run_z]
  have g1 : fr2 PMR PML σ σ1 := g0.tr (f1.f2 PMR_D)
  have n1 : ¬ (1 : Int32) = 0 := by decide
  cases e : (tkN L 1 (rs0 fr) 0 0).2 with
  | none =>
    have ed : rd1 L fr = oF (tkN L 1 (rs0 fr) 0 0).1 (-1) (-1) (-1) 0 := by unfold rd1; rw [e]
    rw [ed] at hQ
    have hf : ¬ gI σ1 1332 0 = 0 := by rw [r1.2.1]; exact tkN_f e
    have key : am_T (kX12_read S1) MM Q 92 [some (.inr (.inr (some (12, 0)))), some (.inl (nI fr)), none, none] [] σ1 0 0 := by
      rw [h_readM 22]
      simp only [am_run_s, bt, lf, am_in, am_ar, am_fit, am_ld, am_ct, Nat.reduceLT, Nat.reduceEqDiff, reduceIte, Nat.reduceAdd, Nat.reduceLeDiff, Nat.reduceSub, Bool.false_eq_true, if_true, if_false, ite_true, ite_false, List.length_cons, List.length_nil, Nat.zero_add, Nat.add_zero, and_true, true_and, true_or, or_true, and_self, Nat.le_refl, Nat.lt_irrefl, gI_sI, gL_sL, gQ_sQ, gI_sJ, gI_sL, gI_sQ, gL_sI, gL_sQ, gL_sJ, gQ_sI, gQ_sL, gQ_sJ, gN_sI, gN_sL, gN_sQ, gN_sJ, E_b2_0, E_cS_a, E_cS_b, E_cV_a, E_cV_b, E_c_0, E_getI_0, E_i2l_0, E_je_0, E_jz_0, E_kk, E_ldI_a, E_ldI_b, E_ldR_a, E_ldR_b, E_putI_0, E_putL_0, E_putZ_0, E_rI_0, E_stI_0, am_cc, am_nl, am_ok, am_pop, am_rt, am_set, cC_12, kX12_read, kX12_read_0, kX12_read_1, kX12_read_2, hf, ↓s_skips_f _ _ hf]
      rw [r1.2.1]
      refine hQ σ1 g1 ⟨r1.o _ _ _ _, ?_, ?_, ?_, ?_, ?_⟩
      · rw [f1.gi rfl, a3]; rfl
      · rw [f1.gi rfl, a4]; rfl
      · rw [f1.gi rfl, a5]; rfl
      · rw [f1.gl, a6]; rfl
      · rw [f1.gi rfl, a7]
    by_cases q : u1 = 1
    · rw [h_readM 5]
      simp only [am_run_s, bt, lf, am_in, am_ar, am_fit, am_ld, am_ct, Nat.reduceLT, Nat.reduceEqDiff, reduceIte, Nat.reduceAdd, Nat.reduceLeDiff, Nat.reduceSub, Bool.false_eq_true, if_true, if_false, ite_true, ite_false, List.length_cons, List.length_nil, Nat.zero_add, Nat.add_zero, and_true, true_and, true_or, or_true, and_self, Nat.le_refl, Nat.lt_irrefl, gI_sI, gL_sL, gQ_sQ, gI_sJ, gI_sL, gI_sQ, gL_sI, gL_sQ, gL_sJ, gQ_sI, gQ_sL, gQ_sJ, gN_sI, gN_sL, gN_sQ, gN_sJ, E_b2_0, E_cS_a, E_cS_b, E_cV_a, E_cV_b, E_c_0, E_getI_0, E_i2l_0, E_je_0, E_jz_0, E_kk, E_ldI_a, E_ldI_b, E_ldR_a, E_ldR_b, E_putI_0, E_putL_0, E_putZ_0, E_rI_0, E_stI_0, am_cc, am_nl, am_ok, am_pop, am_rt, am_set, cC_12, kX12_read, kX12_read_0, kX12_read_1, kX12_read_2, am_run_z, q, ↓s_faults_f _ _ _ _ hf]
      exact key
    · rw [h_readM 1]
      simp only [am_run_s, bt, lf, am_in, am_ar, am_fit, am_ld, am_ct, Nat.reduceLT, Nat.reduceEqDiff, reduceIte, Nat.reduceAdd, Nat.reduceLeDiff, Nat.reduceSub, Bool.false_eq_true, if_true, if_false, ite_true, ite_false, List.length_cons, List.length_nil, Nat.zero_add, Nat.add_zero, and_true, true_and, true_or, or_true, and_self, Nat.le_refl, Nat.lt_irrefl, gI_sI, gL_sL, gQ_sQ, gI_sJ, gI_sL, gI_sQ, gL_sI, gL_sQ, gL_sJ, gQ_sI, gQ_sL, gQ_sJ, gN_sI, gN_sL, gN_sQ, gN_sJ, E_b2_0, E_cS_a, E_cS_b, E_cV_a, E_cV_b, E_c_0, E_getI_0, E_i2l_0, E_je_0, E_jz_0, E_kk, E_ldI_a, E_ldI_b, E_ldR_a, E_ldR_b, E_putI_0, E_putL_0, E_putZ_0, E_rI_0, E_stI_0, am_cc, am_nl, am_ok, am_pop, am_rt, am_set, cC_12, kX12_read, kX12_read_0, kX12_read_1, kX12_read_2, am_run_z, q]
      exact key
  | some p =>
    obtain ⟨y, y1, y2⟩ := tkN_v (x := 0) ha (rs0_v hfr) e
    have hu : u1 = p.1 := w1 p e
    subst hu
    have v1 := RV_tkN ha (rs0_v hfr) e
    have hf : gI σ1 1332 0 = 0 := by rw [r1.2.1]; exact v1.2.1
    have hs0 := rs0_1 e
    by_cases q0 : p.1 = 0
    case neg =>
      have q1 : p.1 = 1 := by
        have : y = 0 ∨ y = 1 := by omega
        rcases this with z | z
        · exact absurd (by rw [y1, z]; decide) q0
        · rw [y1, z]; decide
      have ed : rd1 L fr = ((fr, 1, 0), -1, -1, -1, 0) := by unfold rd1; rw [e]; dsimp only; rw [if_neg q0]
      rw [ed] at hQ
      rw [h_readM 5]
      simp only [am_run_s, bt, lf, am_in, am_ar, am_fit, am_ld, am_ct, Nat.reduceLT, Nat.reduceEqDiff, reduceIte, Nat.reduceAdd, Nat.reduceLeDiff, Nat.reduceSub, Bool.false_eq_true, if_true, if_false, ite_true, ite_false, List.length_cons, List.length_nil, Nat.zero_add, Nat.add_zero, and_true, true_and, true_or, or_true, and_self, Nat.le_refl, Nat.lt_irrefl, gI_sI, gL_sL, gQ_sQ, gI_sJ, gI_sL, gI_sQ, gL_sI, gL_sQ, gL_sJ, gQ_sI, gQ_sL, gQ_sJ, gN_sI, gN_sL, gN_sQ, gN_sJ, E_b2_0, E_cS_a, E_cS_b, E_cV_a, E_cV_b, E_c_0, E_getI_0, E_i2l_0, E_je_0, E_jz_0, E_kk, E_ldI_a, E_ldI_b, E_ldR_a, E_ldR_b, E_putI_0, E_putL_0, E_putZ_0, E_rI_0, E_stI_0, am_cc, am_nl, am_ok, am_pop, am_rt, am_set, cC_12, kX12_read, kX12_read_0, kX12_read_1, kX12_read_2, am_run_z, q1, ↓s_faults _ _ _ _ hf]
      have hf2 : ¬ gI (sI (sI σ1 1332 0 1) 1331 0 (nI fr)) 1332 0 = 0 := by simp only [gI_sI, gL_sL, gQ_sQ, gI_sJ, gI_sL, gI_sQ, gL_sI, gL_sQ, gL_sJ, gQ_sI, gQ_sL, gQ_sJ, gN_sI, gN_sL, gN_sQ, gN_sJ, Nat.reduceLT, Nat.reduceEqDiff, reduceIte, Nat.reduceAdd, Nat.reduceLeDiff, Nat.reduceSub, Bool.false_eq_true, if_true, if_false, ite_true, ite_false, List.length_cons, List.length_nil, Nat.zero_add, Nat.add_zero, and_true, true_and, true_or, or_true, and_self, Nat.le_refl, Nat.lt_irrefl]; exact n1
      rw [h_readM 22]
      simp only [am_run_s, bt, lf, am_in, am_ar, am_fit, am_ld, am_ct, Nat.reduceLT, Nat.reduceEqDiff, reduceIte, Nat.reduceAdd, Nat.reduceLeDiff, Nat.reduceSub, Bool.false_eq_true, if_true, if_false, ite_true, ite_false, List.length_cons, List.length_nil, Nat.zero_add, Nat.add_zero, and_true, true_and, true_or, or_true, and_self, Nat.le_refl, Nat.lt_irrefl, gI_sI, gL_sL, gQ_sQ, gI_sJ, gI_sL, gI_sQ, gL_sI, gL_sQ, gL_sJ, gQ_sI, gQ_sL, gQ_sJ, gN_sI, gN_sL, gN_sQ, gN_sJ, E_b2_0, E_cS_a, E_cS_b, E_cV_a, E_cV_b, E_c_0, E_getI_0, E_i2l_0, E_je_0, E_jz_0, E_kk, E_ldI_a, E_ldI_b, E_ldR_a, E_ldR_b, E_putI_0, E_putL_0, E_putZ_0, E_rI_0, E_stI_0, am_cc, am_nl, am_ok, am_pop, am_rt, am_set, cC_12, kX12_read, kX12_read_0, kX12_read_1, kX12_read_2, n1, ↓s_skips_f _ _ hf2]
      refine hQ _ ((g1.si rfl).si rfl) ⟨⟨?_, ?_, ?_⟩, ?_, ?_, ?_, ?_, ?_⟩
      · simp only [gI_sI, gL_sL, gQ_sQ, gI_sJ, gI_sL, gI_sQ, gL_sI, gL_sQ, gL_sJ, gQ_sI, gQ_sL, gQ_sJ, gN_sI, gN_sL, gN_sQ, gN_sJ, Nat.reduceLT, Nat.reduceEqDiff, reduceIte, Nat.reduceAdd, Nat.reduceLeDiff, Nat.reduceSub, Bool.false_eq_true, if_true, if_false, ite_true, ite_false, List.length_cons, List.length_nil, Nat.zero_add, Nat.add_zero, and_true, true_and, true_or, or_true, and_self, Nat.le_refl, Nat.lt_irrefl]
      · simp only [gI_sI, gL_sL, gQ_sQ, gI_sJ, gI_sL, gI_sQ, gL_sI, gL_sQ, gL_sJ, gQ_sI, gQ_sL, gQ_sJ, gN_sI, gN_sL, gN_sQ, gN_sJ, Nat.reduceLT, Nat.reduceEqDiff, reduceIte, Nat.reduceAdd, Nat.reduceLeDiff, Nat.reduceSub, Bool.false_eq_true, if_true, if_false, ite_true, ite_false, List.length_cons, List.length_nil, Nat.zero_add, Nat.add_zero, and_true, true_and, true_or, or_true, and_self, Nat.le_refl, Nat.lt_irrefl]
      · simp only [gI_sI, gL_sL, gQ_sQ, gI_sJ, gI_sL, gI_sQ, gL_sI, gL_sQ, gL_sJ, gQ_sI, gQ_sL, gQ_sJ, gN_sI, gN_sL, gN_sQ, gN_sJ, Nat.reduceLT, Nat.reduceEqDiff, reduceIte, Nat.reduceAdd, Nat.reduceLeDiff, Nat.reduceSub, Bool.false_eq_true, if_true, if_false, ite_true, ite_false, List.length_cons, List.length_nil, Nat.zero_add, Nat.add_zero, and_true, true_and, true_or, or_true, and_self, Nat.le_refl, Nat.lt_irrefl]; rw [r1.2.2.2.2, hs0.2]
      · simp only [gI_sI, gL_sL, gQ_sQ, gI_sJ, gI_sL, gI_sQ, gL_sI, gL_sQ, gL_sJ, gQ_sI, gQ_sL, gQ_sJ, gN_sI, gN_sL, gN_sQ, gN_sJ, Nat.reduceLT, Nat.reduceEqDiff, reduceIte, Nat.reduceAdd, Nat.reduceLeDiff, Nat.reduceSub, Bool.false_eq_true, if_true, if_false, ite_true, ite_false, List.length_cons, List.length_nil, Nat.zero_add, Nat.add_zero, and_true, true_and, true_or, or_true, and_self, Nat.le_refl, Nat.lt_irrefl]; rw [f1.gi rfl, a3]
      · simp only [gI_sI, gL_sL, gQ_sQ, gI_sJ, gI_sL, gI_sQ, gL_sI, gL_sQ, gL_sJ, gQ_sI, gQ_sL, gQ_sJ, gN_sI, gN_sL, gN_sQ, gN_sJ, Nat.reduceLT, Nat.reduceEqDiff, reduceIte, Nat.reduceAdd, Nat.reduceLeDiff, Nat.reduceSub, Bool.false_eq_true, if_true, if_false, ite_true, ite_false, List.length_cons, List.length_nil, Nat.zero_add, Nat.add_zero, and_true, true_and, true_or, or_true, and_self, Nat.le_refl, Nat.lt_irrefl]; rw [f1.gi rfl, a4]
      · simp only [gI_sI, gL_sL, gQ_sQ, gI_sJ, gI_sL, gI_sQ, gL_sI, gL_sQ, gL_sJ, gQ_sI, gQ_sL, gQ_sJ, gN_sI, gN_sL, gN_sQ, gN_sJ, Nat.reduceLT, Nat.reduceEqDiff, reduceIte, Nat.reduceAdd, Nat.reduceLeDiff, Nat.reduceSub, Bool.false_eq_true, if_true, if_false, ite_true, ite_false, List.length_cons, List.length_nil, Nat.zero_add, Nat.add_zero, and_true, true_and, true_or, or_true, and_self, Nat.le_refl, Nat.lt_irrefl]; rw [f1.gi rfl, a5]
      · simp only [gI_sI, gL_sL, gQ_sQ, gI_sJ, gI_sL, gI_sQ, gL_sI, gL_sQ, gL_sJ, gQ_sI, gQ_sL, gQ_sJ, gN_sI, gN_sL, gN_sQ, gN_sJ, Nat.reduceLT, Nat.reduceEqDiff, reduceIte, Nat.reduceAdd, Nat.reduceLeDiff, Nat.reduceSub, Bool.false_eq_true, if_true, if_false, ite_true, ite_false, List.length_cons, List.length_nil, Nat.zero_add, Nat.add_zero, and_true, true_and, true_or, or_true, and_self, Nat.le_refl, Nat.lt_irrefl]; rw [f1.gl, a6]
      · simp only [gI_sI, gL_sL, gQ_sQ, gI_sJ, gI_sL, gI_sQ, gL_sI, gL_sQ, gL_sJ, gQ_sI, gQ_sL, gQ_sJ, gN_sI, gN_sL, gN_sQ, gN_sJ, Nat.reduceLT, Nat.reduceEqDiff, reduceIte, Nat.reduceAdd, Nat.reduceLeDiff, Nat.reduceSub, Bool.false_eq_true, if_true, if_false, ite_true, ite_false, List.length_cons, List.length_nil, Nat.zero_add, Nat.add_zero, and_true, true_and, true_or, or_true, and_self, Nat.le_refl, Nat.lt_irrefl]; rw [f1.gi rfl, a7]
    have ed : rd1 L fr = rd2 L (tkN L 1 (rs0 fr) 0 0).1 p.2 := by unfold rd1; rw [e]; dsimp only; rw [if_pos q0]
    rw [ed] at hQ
    have m1' := m1 rfl p e
    have hT1 : TPM σ1 L := hT0.fx f1 rfl rfl
    have n01 : ¬ (0 : Int32) = 1 := by decide
    rw [h_readM 1]
    simp only [am_run_s, bt, lf, am_in, am_ar, am_fit, am_ld, am_ct, Nat.reduceLT, Nat.reduceEqDiff, reduceIte, Nat.reduceAdd, Nat.reduceLeDiff, Nat.reduceSub, Bool.false_eq_true, if_true, if_false, ite_true, ite_false, List.length_cons, List.length_nil, Nat.zero_add, Nat.add_zero, and_true, true_and, true_or, or_true, and_self, Nat.le_refl, Nat.lt_irrefl, gI_sI, gL_sL, gQ_sQ, gI_sJ, gI_sL, gI_sQ, gL_sI, gL_sQ, gL_sJ, gQ_sI, gQ_sL, gQ_sJ, gN_sI, gN_sL, gN_sQ, gN_sJ, E_b2_0, E_cS_a, E_cS_b, E_cV_a, E_cV_b, E_c_0, E_getI_0, E_i2l_0, E_je_0, E_jz_0, E_kk, E_ldI_a, E_ldI_b, E_ldR_a, E_ldR_b, E_putI_0, E_putL_0, E_putZ_0, E_rI_0, E_stI_0, am_cc, am_nl, am_ok, am_pop, am_rt, am_set, cC_12, kX12_read, kX12_read_0, kX12_read_1, kX12_read_2, am_run_z, q0, n01]
    rw [h_readM 4]
    simp only [am_run_s, bt, lf, am_in, am_ar, am_fit, am_ld, am_ct, Nat.reduceLT, Nat.reduceEqDiff, reduceIte, Nat.reduceAdd, Nat.reduceLeDiff, Nat.reduceSub, Bool.false_eq_true, if_true, if_false, ite_true, ite_false, List.length_cons, List.length_nil, Nat.zero_add, Nat.add_zero, and_true, true_and, true_or, or_true, and_self, Nat.le_refl, Nat.lt_irrefl, gI_sI, gL_sL, gQ_sQ, gI_sJ, gI_sL, gI_sQ, gL_sI, gL_sQ, gL_sJ, gQ_sI, gQ_sL, gQ_sJ, gN_sI, gN_sL, gN_sQ, gN_sJ, E_b2_0, E_cS_a, E_cS_b, E_cV_a, E_cV_b, E_c_0, E_getI_0, E_i2l_0, E_je_0, E_jz_0, E_kk, E_ldI_a, E_ldI_b, E_ldR_a, E_ldR_b, E_putI_0, E_putL_0, E_putZ_0, E_rI_0, E_stI_0, am_cc, am_nl, am_ok, am_pop, am_rt, am_set, cC_12, kX12_read, kX12_read_0, kX12_read_1, kX12_read_2, am_run_z, hf]
    generalize (tkN L 1 (rs0 fr) 0 0).1 = s1 at hQ v1 r1 ⊢
    refine c_readsRank hL ha hT1 v1 r1 m1' (fun σ2 o f2 e2 p1 p0 p2 => ?_) (fun σ2 s2 sm2 rk f2 v2 r2 m2 k2 e2 => ?_)
    · simp only [am_run_s, bt, lf, am_in, am_ar, am_fit, am_ld, am_ct, Nat.reduceLT, Nat.reduceEqDiff, reduceIte, Nat.reduceAdd, Nat.reduceLeDiff, Nat.reduceSub, Bool.false_eq_true, if_true, if_false, ite_true, ite_false, List.length_cons, List.length_nil, Nat.zero_add, Nat.add_zero, and_true, true_and, true_or, or_true, and_self, Nat.le_refl, Nat.lt_irrefl, gI_sI, gL_sL, gQ_sQ, gI_sJ, gI_sL, gI_sQ, gL_sI, gL_sQ, gL_sJ, gQ_sI, gQ_sL, gQ_sJ, gN_sI, gN_sL, gN_sQ, gN_sJ, E_b2_0, E_cS_a, E_cS_b, E_cV_a, E_cV_b, E_c_0, E_getI_0, E_i2l_0, E_je_0, E_jz_0, E_kk, E_ldI_a, E_ldI_b, E_ldR_a, E_ldR_b, E_putI_0, E_putL_0, E_putZ_0, E_rI_0, E_stI_0, am_cc, am_nl, am_ok, am_pop, am_rt, am_set, cC_12, kX12_read, kX12_read_0, kX12_read_1, kX12_read_2, am_run_z]
      rw [e2] at hQ
      have hf2 : ¬ gI σ2 1332 0 = 0 := by rw [p1.2.1]; exact p0
      rw [h_readM 19]
      simp only [am_run_s, bt, lf, am_in, am_ar, am_fit, am_ld, am_ct, Nat.reduceLT, Nat.reduceEqDiff, reduceIte, Nat.reduceAdd, Nat.reduceLeDiff, Nat.reduceSub, Bool.false_eq_true, if_true, if_false, ite_true, ite_false, List.length_cons, List.length_nil, Nat.zero_add, Nat.add_zero, and_true, true_and, true_or, or_true, and_self, Nat.le_refl, Nat.lt_irrefl, gI_sI, gL_sL, gQ_sQ, gI_sJ, gI_sL, gI_sQ, gL_sI, gL_sQ, gL_sJ, gQ_sI, gQ_sL, gQ_sJ, gN_sI, gN_sL, gN_sQ, gN_sJ, E_b2_0, E_cS_a, E_cS_b, E_cV_a, E_cV_b, E_c_0, E_getI_0, E_i2l_0, E_je_0, E_jz_0, E_kk, E_ldI_a, E_ldI_b, E_ldR_a, E_ldR_b, E_putI_0, E_putL_0, E_putZ_0, E_rI_0, E_stI_0, am_cc, am_nl, am_ok, am_pop, am_rt, am_set, cC_12, kX12_read, kX12_read_0, kX12_read_1, kX12_read_2, hf2, ↓s_skips_f _ _ hf2]
      rw [p1.2.1]
      refine hQ σ2 (g1.tr (f2.f2 PMR_D)) ⟨p1, ?_, ?_, ?_, ?_, ?_⟩
      · rw [f2.gi rfl, f1.gi rfl, a3, p2]
      · rw [f2.gi rfl, f1.gi rfl, a4, p2]
      · rw [f2.gi rfl, f1.gi rfl, a5, p2]
      · rw [f2.gl, f1.gl, a6, p2]
      · rw [f2.gi rfl, f1.gi rfl, a7]
    rw [e2] at hQ
    have g2 : fr2 PMR PML σ σ2 := g1.tr (f2.f2 PMR_K)
    have hf2 : gI σ2 1332 0 = 0 := by rw [r2.2.1]; exact v2.2.1
    have hT2 : TPM σ2 L := hT1.fx f2 rfl rfl
    simp only [am_run_s, bt, lf, am_in, am_ar, am_fit, am_ld, am_ct, Nat.reduceLT, Nat.reduceEqDiff, reduceIte, Nat.reduceAdd, Nat.reduceLeDiff, Nat.reduceSub, Bool.false_eq_true, if_true, if_false, ite_true, ite_false, List.length_cons, List.length_nil, Nat.zero_add, Nat.add_zero, and_true, true_and, true_or, or_true, and_self, Nat.le_refl, Nat.lt_irrefl, gI_sI, gL_sL, gQ_sQ, gI_sJ, gI_sL, gI_sQ, gL_sI, gL_sQ, gL_sJ, gQ_sI, gQ_sL, gQ_sJ, gN_sI, gN_sL, gN_sQ, gN_sJ, E_b2_0, E_cS_a, E_cS_b, E_cV_a, E_cV_b, E_c_0, E_getI_0, E_i2l_0, E_je_0, E_jz_0, E_kk, E_ldI_a, E_ldI_b, E_ldR_a, E_ldR_b, E_putI_0, E_putL_0, E_putZ_0, E_rI_0, E_stI_0, am_cc, am_nl, am_ok, am_pop, am_rt, am_set, cC_12, kX12_read, kX12_read_0, kX12_read_1, kX12_read_2, am_run_z]
    rw [h_readM 4]
    simp only [am_run_s, bt, lf, am_in, am_ar, am_fit, am_ld, am_ct, Nat.reduceLT, Nat.reduceEqDiff, reduceIte, Nat.reduceAdd, Nat.reduceLeDiff, Nat.reduceSub, Bool.false_eq_true, if_true, if_false, ite_true, ite_false, List.length_cons, List.length_nil, Nat.zero_add, Nat.add_zero, and_true, true_and, true_or, or_true, and_self, Nat.le_refl, Nat.lt_irrefl, gI_sI, gL_sL, gQ_sQ, gI_sJ, gI_sL, gI_sQ, gL_sI, gL_sQ, gL_sJ, gQ_sI, gQ_sL, gQ_sJ, gN_sI, gN_sL, gN_sQ, gN_sJ, E_b2_0, E_cS_a, E_cS_b, E_cV_a, E_cV_b, E_c_0, E_getI_0, E_i2l_0, E_je_0, E_jz_0, E_kk, E_ldI_a, E_ldI_b, E_ldR_a, E_ldR_b, E_putI_0, E_putL_0, E_putZ_0, E_rI_0, E_stI_0, am_cc, am_nl, am_ok, am_pop, am_rt, am_set, cC_12, kX12_read, kX12_read_0, kX12_read_1, kX12_read_2, am_run_z, hf2]
    have hn2 : gI σ2 1337 0 = -1 := by rw [f2.gi rfl, f1.gi rfl, a4]
    have hv2 : gL σ2 1340 0 = 0 := by rw [f2.gl, f1.gl, a6]
    refine c_readsBytes (r := rk) hL ha hT2 v2 r2 m2 hn2 hv2 (fun σ3 o f3 e3 p1 p0 p2 p3 p4 => ?_) (fun σ3 s3 sm3 n v f3 v3 r3 m3 k3 w3 e3 => ?_)
    · simp only [am_run_s, bt, lf, am_in, am_ar, am_fit, am_ld, am_ct, Nat.reduceLT, Nat.reduceEqDiff, reduceIte, Nat.reduceAdd, Nat.reduceLeDiff, Nat.reduceSub, Bool.false_eq_true, if_true, if_false, ite_true, ite_false, List.length_cons, List.length_nil, Nat.zero_add, Nat.add_zero, and_true, true_and, true_or, or_true, and_self, Nat.le_refl, Nat.lt_irrefl, gI_sI, gL_sL, gQ_sQ, gI_sJ, gI_sL, gI_sQ, gL_sI, gL_sQ, gL_sJ, gQ_sI, gQ_sL, gQ_sJ, gN_sI, gN_sL, gN_sQ, gN_sJ, E_b2_0, E_cS_a, E_cS_b, E_cV_a, E_cV_b, E_c_0, E_getI_0, E_i2l_0, E_je_0, E_jz_0, E_kk, E_ldI_a, E_ldI_b, E_ldR_a, E_ldR_b, E_putI_0, E_putL_0, E_putZ_0, E_rI_0, E_stI_0, am_cc, am_nl, am_ok, am_pop, am_rt, am_set, cC_12, kX12_read, kX12_read_0, kX12_read_1, kX12_read_2, am_run_z]
      rw [e3] at hQ
      have hf3 : ¬ gI σ3 1332 0 = 0 := by rw [p1.2.1]; exact p0
      rw [h_readM 16]
      simp only [am_run_s, bt, lf, am_in, am_ar, am_fit, am_ld, am_ct, Nat.reduceLT, Nat.reduceEqDiff, reduceIte, Nat.reduceAdd, Nat.reduceLeDiff, Nat.reduceSub, Bool.false_eq_true, if_true, if_false, ite_true, ite_false, List.length_cons, List.length_nil, Nat.zero_add, Nat.add_zero, and_true, true_and, true_or, or_true, and_self, Nat.le_refl, Nat.lt_irrefl, gI_sI, gL_sL, gQ_sQ, gI_sJ, gI_sL, gI_sQ, gL_sI, gL_sQ, gL_sJ, gQ_sI, gQ_sL, gQ_sJ, gN_sI, gN_sL, gN_sQ, gN_sJ, E_b2_0, E_cS_a, E_cS_b, E_cV_a, E_cV_b, E_c_0, E_getI_0, E_i2l_0, E_je_0, E_jz_0, E_kk, E_ldI_a, E_ldI_b, E_ldR_a, E_ldR_b, E_putI_0, E_putL_0, E_putZ_0, E_rI_0, E_stI_0, am_cc, am_nl, am_ok, am_pop, am_rt, am_set, cC_12, kX12_read, kX12_read_0, kX12_read_1, kX12_read_2, hf3, ↓s_skips_f _ _ hf3]
      rw [p1.2.1]
      refine hQ σ3 (g2.tr (f3.mo PMR_C)) ⟨p1, ?_, p2, ?_, p3, ?_⟩
      · rw [f3.gi rfl, k2, p4.1]
      · rw [f3.gi rfl, f2.gi rfl, f1.gi rfl, a5, p4.2]
      · rw [f3.gi rfl, f2.gi rfl, f1.gi rfl, a7]
    rw [e3] at hQ
    have g3 : fr2 PMR PML σ σ3 := g2.tr (f3.mo PMR_C)
    have hf3 : gI σ3 1332 0 = 0 := by rw [r3.2.1]; exact v3.2.1
    have hT3 : TPM σ3 L := hT2.f2 f3 rfl rfl
    have k23 : gI σ3 1336 0 = rk := by rw [f3.gi rfl]; exact k2
    have a53 : gI σ3 1339 0 = -1 := by rw [f3.gi rfl, f2.gi rfl, f1.gi rfl, a5]
    have a73 : gI σ3 1341 0 = 1 := by rw [f3.gi rfl, f2.gi rfl, f1.gi rfl, a7]
    simp only [am_run_s, bt, lf, am_in, am_ar, am_fit, am_ld, am_ct, Nat.reduceLT, Nat.reduceEqDiff, reduceIte, Nat.reduceAdd, Nat.reduceLeDiff, Nat.reduceSub, Bool.false_eq_true, if_true, if_false, ite_true, ite_false, List.length_cons, List.length_nil, Nat.zero_add, Nat.add_zero, and_true, true_and, true_or, or_true, and_self, Nat.le_refl, Nat.lt_irrefl, gI_sI, gL_sL, gQ_sQ, gI_sJ, gI_sL, gI_sQ, gL_sI, gL_sQ, gL_sJ, gQ_sI, gQ_sL, gQ_sJ, gN_sI, gN_sL, gN_sQ, gN_sJ, E_b2_0, E_cS_a, E_cS_b, E_cV_a, E_cV_b, E_c_0, E_getI_0, E_i2l_0, E_je_0, E_jz_0, E_kk, E_ldI_a, E_ldI_b, E_ldR_a, E_ldR_b, E_putI_0, E_putL_0, E_putZ_0, E_rI_0, E_stI_0, am_cc, am_nl, am_ok, am_pop, am_rt, am_set, cC_12, kX12_read, kX12_read_0, kX12_read_1, kX12_read_2, am_run_z]
    rw [h_readM 9]
    simp only [am_run_s, bt, lf, am_in, am_ar, am_fit, am_ld, am_ct, Nat.reduceLT, Nat.reduceEqDiff, reduceIte, Nat.reduceAdd, Nat.reduceLeDiff, Nat.reduceSub, Bool.false_eq_true, if_true, if_false, ite_true, ite_false, List.length_cons, List.length_nil, Nat.zero_add, Nat.add_zero, and_true, true_and, true_or, or_true, and_self, Nat.le_refl, Nat.lt_irrefl, gI_sI, gL_sL, gQ_sQ, gI_sJ, gI_sL, gI_sQ, gL_sI, gL_sQ, gL_sJ, gQ_sI, gQ_sL, gQ_sJ, gN_sI, gN_sL, gN_sQ, gN_sJ, E_b2_0, E_cS_a, E_cS_b, E_cV_a, E_cV_b, E_c_0, E_getI_0, E_i2l_0, E_je_0, E_jz_0, E_kk, E_ldI_a, E_ldI_b, E_ldR_a, E_ldR_b, E_putI_0, E_putL_0, E_putZ_0, E_rI_0, E_stI_0, am_cc, am_nl, am_ok, am_pop, am_rt, am_set, cC_12, kX12_read, kX12_read_0, kX12_read_1, kX12_read_2, am_run_z, hf3, m3]
    refine c_takes (w := 15) (sm := sm3) b0 (by omega) hL ha hT3 v3 r3 (fun z => absurd z (by decide)) _ (by decide) (fun σ4 u4 f4 r4 _ _ w4 => ?_)
    simp only [am_run_s, bt, lf, am_in, am_ar, am_fit, am_ld, am_ct, Nat.reduceLT, Nat.reduceEqDiff, reduceIte, Nat.reduceAdd, Nat.reduceLeDiff, Nat.reduceSub, Bool.false_eq_true, if_true, if_false, ite_true, ite_false, List.length_cons, List.length_nil, Nat.zero_add, Nat.add_zero, and_true, true_and, true_or, or_true, and_self, Nat.le_refl, Nat.lt_irrefl, gI_sI, gL_sL, gQ_sQ, gI_sJ, gI_sL, gI_sQ, gL_sI, gL_sQ, gL_sJ, gQ_sI, gQ_sL, gQ_sJ, gN_sI, gN_sL, gN_sQ, gN_sJ, E_b2_0, E_cS_a, E_cS_b, E_cV_a, E_cV_b, E_c_0, E_getI_0, E_i2l_0, E_je_0, E_jz_0, E_kk, E_ldI_a, E_ldI_b, E_ldR_a, E_ldR_b, E_putI_0, E_putL_0, E_putZ_0, E_rI_0, E_stI_0, am_cc, am_nl, am_ok, am_pop, am_rt, am_set, cC_12, kX12_read, kX12_read_0, kX12_read_1, kX12_read_2, am_run_z]
    have g4 : fr2 PMR PML σ σ4 := g3.tr (f4.f2 PMR_D)
    have k24 : gI σ4 1336 0 = rk := by rw [f4.gi rfl]; exact k23
    have k34 : gI σ4 1337 0 = n := by rw [f4.gi rfl]; exact k3
    have w34 : gL σ4 1340 0 = v := by rw [f4.gl]; exact w3
    have a74 : gI σ4 1341 0 = 1 := by rw [f4.gi rfl]; exact a73
    cases e4 : (tkN L 15 s3 0 sm3).2 with
    | none =>
      have ed4 : rd5 L s3 sm3 rk n v = oF (tkN L 15 s3 0 sm3).1 rk n (-1) v := by unfold rd5; rw [e4]
      rw [ed4] at hQ
      have hf4 : ¬ gI σ4 1332 0 = 0 := by rw [r4.2.1]; exact tkN_f e4
      rw [h_readM 18]
      simp only [am_run_s, bt, lf, am_in, am_ar, am_fit, am_ld, am_ct, Nat.reduceLT, Nat.reduceEqDiff, reduceIte, Nat.reduceAdd, Nat.reduceLeDiff, Nat.reduceSub, Bool.false_eq_true, if_true, if_false, ite_true, ite_false, List.length_cons, List.length_nil, Nat.zero_add, Nat.add_zero, and_true, true_and, true_or, or_true, and_self, Nat.le_refl, Nat.lt_irrefl, gI_sI, gL_sL, gQ_sQ, gI_sJ, gI_sL, gI_sQ, gL_sI, gL_sQ, gL_sJ, gQ_sI, gQ_sL, gQ_sJ, gN_sI, gN_sL, gN_sQ, gN_sJ, E_b2_0, E_cS_a, E_cS_b, E_cV_a, E_cV_b, E_c_0, E_getI_0, E_i2l_0, E_je_0, E_jz_0, E_kk, E_ldI_a, E_ldI_b, E_ldR_a, E_ldR_b, E_putI_0, E_putL_0, E_putZ_0, E_rI_0, E_stI_0, am_cc, am_nl, am_ok, am_pop, am_rt, am_set, cC_12, kX12_read, kX12_read_0, kX12_read_1, kX12_read_2, hf4, ↓s_skips_f _ _ hf4]
      rw [r4.2.1]
      refine hQ σ4 g4 ⟨r4.o _ _ _ _, k24, k34, ?_, w34, a74⟩
      rw [f4.gi rfl, a53]; rfl
    | some t =>
      have hu4 : u4 = t.1 := w4 t e4
      subst hu4
      have v4 := RV_tkN ha v3 e4
      have hf4 : gI σ4 1332 0 = 0 := by rw [r4.2.1]; exact v4.2.1
      have h41 := tkN_1 e4
      by_cases q4 : t.1 = sm3
      case neg =>
        have ed4 : rd5 L s3 sm3 rk n v = (((tkN L 15 s3 0 sm3).1.1 - 1, 4, (tkN L 15 s3 0 sm3).1.2.2.2.2), rk, n, t.1, v) := by unfold rd5; rw [e4]; dsimp only; rw [if_neg q4]
        rw [ed4] at hQ
        have n4 : ¬ (4 : Int32) = 0 := by decide
        have hf5 : gI (sI σ4 1339 0 t.1) 1332 0 = 0 := by simp only [gI_sI, gL_sL, gQ_sQ, gI_sJ, gI_sL, gI_sQ, gL_sI, gL_sQ, gL_sJ, gQ_sI, gQ_sL, gQ_sJ, gN_sI, gN_sL, gN_sQ, gN_sJ, Nat.reduceLT, Nat.reduceEqDiff, reduceIte, Nat.reduceAdd, Nat.reduceLeDiff, Nat.reduceSub, Bool.false_eq_true, if_true, if_false, ite_true, ite_false, List.length_cons, List.length_nil, Nat.zero_add, Nat.add_zero, and_true, true_and, true_or, or_true, and_self, Nat.le_refl, Nat.lt_irrefl]; exact hf4
        have hf6 : ∀ z : Int32, ¬ gI (sI (sI (sI σ4 1339 0 t.1) 1332 0 4) 1331 0 z) 1332 0 = 0 := fun z => by simp only [gI_sI, gL_sL, gQ_sQ, gI_sJ, gI_sL, gI_sQ, gL_sI, gL_sQ, gL_sJ, gQ_sI, gQ_sL, gQ_sJ, gN_sI, gN_sL, gN_sQ, gN_sJ, Nat.reduceLT, Nat.reduceEqDiff, reduceIte, Nat.reduceAdd, Nat.reduceLeDiff, Nat.reduceSub, Bool.false_eq_true, if_true, if_false, ite_true, ite_false, List.length_cons, List.length_nil, Nat.zero_add, Nat.add_zero, and_true, true_and, true_or, or_true, and_self, Nat.le_refl, Nat.lt_irrefl]; exact n4
        rw [h_readM 20]
        simp only [am_run_s, bt, lf, am_in, am_ar, am_fit, am_ld, am_ct, Nat.reduceLT, Nat.reduceEqDiff, reduceIte, Nat.reduceAdd, Nat.reduceLeDiff, Nat.reduceSub, Bool.false_eq_true, if_true, if_false, ite_true, ite_false, List.length_cons, List.length_nil, Nat.zero_add, Nat.add_zero, and_true, true_and, true_or, or_true, and_self, Nat.le_refl, Nat.lt_irrefl, gI_sI, gL_sL, gQ_sQ, gI_sJ, gI_sL, gI_sQ, gL_sI, gL_sQ, gL_sJ, gQ_sI, gQ_sL, gQ_sJ, gN_sI, gN_sL, gN_sQ, gN_sJ, E_b2_0, E_cS_a, E_cS_b, E_cV_a, E_cV_b, E_c_0, E_getI_0, E_i2l_0, E_je_0, E_jz_0, E_kk, E_ldI_a, E_ldI_b, E_ldR_a, E_ldR_b, E_putI_0, E_putL_0, E_putZ_0, E_rI_0, E_stI_0, am_cc, am_nl, am_ok, am_pop, am_rt, am_set, cC_12, kX12_read, kX12_read_0, kX12_read_1, kX12_read_2, am_run_z, hf4, q4, r4.1, ↓s_faults _ _ _ _ hf5]
        rw [h_readM 8]
        simp only [am_run_s, bt, lf, am_in, am_ar, am_fit, am_ld, am_ct, Nat.reduceLT, Nat.reduceEqDiff, reduceIte, Nat.reduceAdd, Nat.reduceLeDiff, Nat.reduceSub, Bool.false_eq_true, if_true, if_false, ite_true, ite_false, List.length_cons, List.length_nil, Nat.zero_add, Nat.add_zero, and_true, true_and, true_or, or_true, and_self, Nat.le_refl, Nat.lt_irrefl, gI_sI, gL_sL, gQ_sQ, gI_sJ, gI_sL, gI_sQ, gL_sI, gL_sQ, gL_sJ, gQ_sI, gQ_sL, gQ_sJ, gN_sI, gN_sL, gN_sQ, gN_sJ, E_b2_0, E_cS_a, E_cS_b, E_cV_a, E_cV_b, E_c_0, E_getI_0, E_i2l_0, E_je_0, E_jz_0, E_kk, E_ldI_a, E_ldI_b, E_ldR_a, E_ldR_b, E_putI_0, E_putL_0, E_putZ_0, E_rI_0, E_stI_0, am_cc, am_nl, am_ok, am_pop, am_rt, am_set, cC_12, kX12_read, kX12_read_0, kX12_read_1, kX12_read_2, n4, ↓s_skips_f _ _ (hf6 _)]
        refine hQ _ (((g4.si rfl).si rfl).si rfl) ⟨⟨?_, ?_, ?_⟩, ?_, ?_, ?_, ?_, ?_⟩
        · simp only [gI_sI, gL_sL, gQ_sQ, gI_sJ, gI_sL, gI_sQ, gL_sI, gL_sQ, gL_sJ, gQ_sI, gQ_sL, gQ_sJ, gN_sI, gN_sL, gN_sQ, gN_sJ, Nat.reduceLT, Nat.reduceEqDiff, reduceIte, Nat.reduceAdd, Nat.reduceLeDiff, Nat.reduceSub, Bool.false_eq_true, if_true, if_false, ite_true, ite_false, List.length_cons, List.length_nil, Nat.zero_add, Nat.add_zero, and_true, true_and, true_or, or_true, and_self, Nat.le_refl, Nat.lt_irrefl]; rw [one', pk_sub h41]
        · simp only [gI_sI, gL_sL, gQ_sQ, gI_sJ, gI_sL, gI_sQ, gL_sI, gL_sQ, gL_sJ, gQ_sI, gQ_sL, gQ_sJ, gN_sI, gN_sL, gN_sQ, gN_sJ, Nat.reduceLT, Nat.reduceEqDiff, reduceIte, Nat.reduceAdd, Nat.reduceLeDiff, Nat.reduceSub, Bool.false_eq_true, if_true, if_false, ite_true, ite_false, List.length_cons, List.length_nil, Nat.zero_add, Nat.add_zero, and_true, true_and, true_or, or_true, and_self, Nat.le_refl, Nat.lt_irrefl]
        · simp only [gI_sI, gL_sL, gQ_sQ, gI_sJ, gI_sL, gI_sQ, gL_sI, gL_sQ, gL_sJ, gQ_sI, gQ_sL, gQ_sJ, gN_sI, gN_sL, gN_sQ, gN_sJ, Nat.reduceLT, Nat.reduceEqDiff, reduceIte, Nat.reduceAdd, Nat.reduceLeDiff, Nat.reduceSub, Bool.false_eq_true, if_true, if_false, ite_true, ite_false, List.length_cons, List.length_nil, Nat.zero_add, Nat.add_zero, and_true, true_and, true_or, or_true, and_self, Nat.le_refl, Nat.lt_irrefl]; rw [r4.2.2.2.2]
        · simp only [gI_sI, gL_sL, gQ_sQ, gI_sJ, gI_sL, gI_sQ, gL_sI, gL_sQ, gL_sJ, gQ_sI, gQ_sL, gQ_sJ, gN_sI, gN_sL, gN_sQ, gN_sJ, Nat.reduceLT, Nat.reduceEqDiff, reduceIte, Nat.reduceAdd, Nat.reduceLeDiff, Nat.reduceSub, Bool.false_eq_true, if_true, if_false, ite_true, ite_false, List.length_cons, List.length_nil, Nat.zero_add, Nat.add_zero, and_true, true_and, true_or, or_true, and_self, Nat.le_refl, Nat.lt_irrefl]; exact k24
        · simp only [gI_sI, gL_sL, gQ_sQ, gI_sJ, gI_sL, gI_sQ, gL_sI, gL_sQ, gL_sJ, gQ_sI, gQ_sL, gQ_sJ, gN_sI, gN_sL, gN_sQ, gN_sJ, Nat.reduceLT, Nat.reduceEqDiff, reduceIte, Nat.reduceAdd, Nat.reduceLeDiff, Nat.reduceSub, Bool.false_eq_true, if_true, if_false, ite_true, ite_false, List.length_cons, List.length_nil, Nat.zero_add, Nat.add_zero, and_true, true_and, true_or, or_true, and_self, Nat.le_refl, Nat.lt_irrefl]; exact k34
        · simp only [gI_sI, gL_sL, gQ_sQ, gI_sJ, gI_sL, gI_sQ, gL_sI, gL_sQ, gL_sJ, gQ_sI, gQ_sL, gQ_sJ, gN_sI, gN_sL, gN_sQ, gN_sJ, Nat.reduceLT, Nat.reduceEqDiff, reduceIte, Nat.reduceAdd, Nat.reduceLeDiff, Nat.reduceSub, Bool.false_eq_true, if_true, if_false, ite_true, ite_false, List.length_cons, List.length_nil, Nat.zero_add, Nat.add_zero, and_true, true_and, true_or, or_true, and_self, Nat.le_refl, Nat.lt_irrefl]
        · simp only [gI_sI, gL_sL, gQ_sQ, gI_sJ, gI_sL, gI_sQ, gL_sI, gL_sQ, gL_sJ, gQ_sI, gQ_sL, gQ_sJ, gN_sI, gN_sL, gN_sQ, gN_sJ, Nat.reduceLT, Nat.reduceEqDiff, reduceIte, Nat.reduceAdd, Nat.reduceLeDiff, Nat.reduceSub, Bool.false_eq_true, if_true, if_false, ite_true, ite_false, List.length_cons, List.length_nil, Nat.zero_add, Nat.add_zero, and_true, true_and, true_or, or_true, and_self, Nat.le_refl, Nat.lt_irrefl]; exact w34
        · simp only [gI_sI, gL_sL, gQ_sQ, gI_sJ, gI_sL, gI_sQ, gL_sI, gL_sQ, gL_sJ, gQ_sI, gQ_sL, gQ_sJ, gN_sI, gN_sL, gN_sQ, gN_sJ, Nat.reduceLT, Nat.reduceEqDiff, reduceIte, Nat.reduceAdd, Nat.reduceLeDiff, Nat.reduceSub, Bool.false_eq_true, if_true, if_false, ite_true, ite_false, List.length_cons, List.length_nil, Nat.zero_add, Nat.add_zero, and_true, true_and, true_or, or_true, and_self, Nat.le_refl, Nat.lt_irrefl]; exact a74
      have ed4 : rd5 L s3 sm3 rk n v = rd6 L (tkN L 15 s3 0 sm3).1 rk n t.1 v := by unfold rd5; rw [e4]; dsimp only; rw [if_pos q4]
      rw [ed4] at hQ
      rw [h_readM 12]
      simp only [am_run_s, bt, lf, am_in, am_ar, am_fit, am_ld, am_ct, Nat.reduceLT, Nat.reduceEqDiff, reduceIte, Nat.reduceAdd, Nat.reduceLeDiff, Nat.reduceSub, Bool.false_eq_true, if_true, if_false, ite_true, ite_false, List.length_cons, List.length_nil, Nat.zero_add, Nat.add_zero, and_true, true_and, true_or, or_true, and_self, Nat.le_refl, Nat.lt_irrefl, gI_sI, gL_sL, gQ_sQ, gI_sJ, gI_sL, gI_sQ, gL_sI, gL_sQ, gL_sJ, gQ_sI, gQ_sL, gQ_sJ, gN_sI, gN_sL, gN_sQ, gN_sJ, E_b2_0, E_cS_a, E_cS_b, E_cV_a, E_cV_b, E_c_0, E_getI_0, E_i2l_0, E_je_0, E_jz_0, E_kk, E_ldI_a, E_ldI_b, E_ldR_a, E_ldR_b, E_putI_0, E_putL_0, E_putZ_0, E_rI_0, E_stI_0, am_cc, am_nl, am_ok, am_pop, am_rt, am_set, cC_12, kX12_read, kX12_read_0, kX12_read_1, kX12_read_2, am_run_z, hf4, q4]
      rw [h_readM 1]
      simp only [am_run_s, bt, lf, am_in, am_ar, am_fit, am_ld, am_ct, Nat.reduceLT, Nat.reduceEqDiff, reduceIte, Nat.reduceAdd, Nat.reduceLeDiff, Nat.reduceSub, Bool.false_eq_true, if_true, if_false, ite_true, ite_false, List.length_cons, List.length_nil, Nat.zero_add, Nat.add_zero, and_true, true_and, true_or, or_true, and_self, Nat.le_refl, Nat.lt_irrefl, gI_sI, gL_sL, gQ_sQ, gI_sJ, gI_sL, gI_sQ, gL_sI, gL_sQ, gL_sJ, gQ_sI, gQ_sL, gQ_sJ, gN_sI, gN_sL, gN_sQ, gN_sJ, E_b2_0, E_cS_a, E_cS_b, E_cV_a, E_cV_b, E_c_0, E_getI_0, E_i2l_0, E_je_0, E_jz_0, E_kk, E_ldI_a, E_ldI_b, E_ldR_a, E_ldR_b, E_putI_0, E_putL_0, E_putZ_0, E_rI_0, E_stI_0, am_cc, am_nl, am_ok, am_pop, am_rt, am_set, cC_12, kX12_read, kX12_read_0, kX12_read_1, kX12_read_2, am_run_z]
      have g5 : fr2 PMR PML σ (sI σ4 1339 0 sm3) := g4.si rfl
      have hT5 : TPM (sI σ4 1339 0 sm3) L := (hT3.fx f4 rfl rfl).f2 (P := PMR) (R := PML) (fr2.rf.si rfl) rfl rfl
      generalize (tkN L 15 s3 0 sm3).1 = s4 at hQ v4 r4 ⊢
      refine c_skips hL hT5 v4 ⟨?_, ?_, ?_, ?_, ?_⟩ (fun σ6 f6 r6 _ => ?_)
      · simp only [gI_sI, gL_sL, gQ_sQ, gI_sJ, gI_sL, gI_sQ, gL_sI, gL_sQ, gL_sJ, gQ_sI, gQ_sL, gQ_sJ, gN_sI, gN_sL, gN_sQ, gN_sJ, Nat.reduceLT, Nat.reduceEqDiff, reduceIte, Nat.reduceAdd, Nat.reduceLeDiff, Nat.reduceSub, Bool.false_eq_true, if_true, if_false, ite_true, ite_false, List.length_cons, List.length_nil, Nat.zero_add, Nat.add_zero, and_true, true_and, true_or, or_true, and_self, Nat.le_refl, Nat.lt_irrefl]; exact r4.1
      · simp only [gI_sI, gL_sL, gQ_sQ, gI_sJ, gI_sL, gI_sQ, gL_sI, gL_sQ, gL_sJ, gQ_sI, gQ_sL, gQ_sJ, gN_sI, gN_sL, gN_sQ, gN_sJ, Nat.reduceLT, Nat.reduceEqDiff, reduceIte, Nat.reduceAdd, Nat.reduceLeDiff, Nat.reduceSub, Bool.false_eq_true, if_true, if_false, ite_true, ite_false, List.length_cons, List.length_nil, Nat.zero_add, Nat.add_zero, and_true, true_and, true_or, or_true, and_self, Nat.le_refl, Nat.lt_irrefl]; exact r4.2.1
      · simp only [gI_sI, gL_sL, gQ_sQ, gI_sJ, gI_sL, gI_sQ, gL_sI, gL_sQ, gL_sJ, gQ_sI, gQ_sL, gQ_sJ, gN_sI, gN_sL, gN_sQ, gN_sJ, Nat.reduceLT, Nat.reduceEqDiff, reduceIte, Nat.reduceAdd, Nat.reduceLeDiff, Nat.reduceSub, Bool.false_eq_true, if_true, if_false, ite_true, ite_false, List.length_cons, List.length_nil, Nat.zero_add, Nat.add_zero, and_true, true_and, true_or, or_true, and_self, Nat.le_refl, Nat.lt_irrefl]; exact r4.2.2.1
      · simp only [gI_sI, gL_sL, gQ_sQ, gI_sJ, gI_sL, gI_sQ, gL_sI, gL_sQ, gL_sJ, gQ_sI, gQ_sL, gQ_sJ, gN_sI, gN_sL, gN_sQ, gN_sJ, Nat.reduceLT, Nat.reduceEqDiff, reduceIte, Nat.reduceAdd, Nat.reduceLeDiff, Nat.reduceSub, Bool.false_eq_true, if_true, if_false, ite_true, ite_false, List.length_cons, List.length_nil, Nat.zero_add, Nat.add_zero, and_true, true_and, true_or, or_true, and_self, Nat.le_refl, Nat.lt_irrefl]; exact r4.2.2.2.1
      · simp only [gI_sI, gL_sL, gQ_sQ, gI_sJ, gI_sL, gI_sQ, gL_sI, gL_sQ, gL_sJ, gQ_sI, gQ_sL, gQ_sJ, gN_sI, gN_sL, gN_sQ, gN_sJ, Nat.reduceLT, Nat.reduceEqDiff, reduceIte, Nat.reduceAdd, Nat.reduceLeDiff, Nat.reduceSub, Bool.false_eq_true, if_true, if_false, ite_true, ite_false, List.length_cons, List.length_nil, Nat.zero_add, Nat.add_zero, and_true, true_and, true_or, or_true, and_self, Nat.le_refl, Nat.lt_irrefl]; exact r4.2.2.2.2
      simp only [am_run_s, bt, lf, am_in, am_ar, am_fit, am_ld, am_ct, Nat.reduceLT, Nat.reduceEqDiff, reduceIte, Nat.reduceAdd, Nat.reduceLeDiff, Nat.reduceSub, Bool.false_eq_true, if_true, if_false, ite_true, ite_false, List.length_cons, List.length_nil, Nat.zero_add, Nat.add_zero, and_true, true_and, true_or, or_true, and_self, Nat.le_refl, Nat.lt_irrefl, gI_sI, gL_sL, gQ_sQ, gI_sJ, gI_sL, gI_sQ, gL_sI, gL_sQ, gL_sJ, gQ_sI, gQ_sL, gQ_sJ, gN_sI, gN_sL, gN_sQ, gN_sJ, E_b2_0, E_cS_a, E_cS_b, E_cV_a, E_cV_b, E_c_0, E_getI_0, E_i2l_0, E_je_0, E_jz_0, E_kk, E_ldI_a, E_ldI_b, E_ldR_a, E_ldR_b, E_putI_0, E_putL_0, E_putZ_0, E_rI_0, E_stI_0, am_cc, am_nl, am_ok, am_pop, am_rt, am_set, cC_12, kX12_read, kX12_read_0, kX12_read_1, kX12_read_2, am_run_z]
      have g6 : fr2 PMR PML σ σ6 := g5.tr (f6.f2 PMR_D)
      have k26 : gI σ6 1336 0 = rk := by rw [f6.gi rfl]; simp only [gI_sI, gL_sL, gQ_sQ, gI_sJ, gI_sL, gI_sQ, gL_sI, gL_sQ, gL_sJ, gQ_sI, gQ_sL, gQ_sJ, gN_sI, gN_sL, gN_sQ, gN_sJ, Nat.reduceLT, Nat.reduceEqDiff, reduceIte, Nat.reduceAdd, Nat.reduceLeDiff, Nat.reduceSub, Bool.false_eq_true, if_true, if_false, ite_true, ite_false, List.length_cons, List.length_nil, Nat.zero_add, Nat.add_zero, and_true, true_and, true_or, or_true, and_self, Nat.le_refl, Nat.lt_irrefl]; exact k24
      have k36 : gI σ6 1337 0 = n := by rw [f6.gi rfl]; simp only [gI_sI, gL_sL, gQ_sQ, gI_sJ, gI_sL, gI_sQ, gL_sI, gL_sQ, gL_sJ, gQ_sI, gQ_sL, gQ_sJ, gN_sI, gN_sL, gN_sQ, gN_sJ, Nat.reduceLT, Nat.reduceEqDiff, reduceIte, Nat.reduceAdd, Nat.reduceLeDiff, Nat.reduceSub, Bool.false_eq_true, if_true, if_false, ite_true, ite_false, List.length_cons, List.length_nil, Nat.zero_add, Nat.add_zero, and_true, true_and, true_or, or_true, and_self, Nat.le_refl, Nat.lt_irrefl]; exact k34
      have a56 : gI σ6 1339 0 = t.1 := by rw [f6.gi rfl]; simp only [gI_sI, gL_sL, gQ_sQ, gI_sJ, gI_sL, gI_sQ, gL_sI, gL_sQ, gL_sJ, gQ_sI, gQ_sL, gQ_sJ, gN_sI, gN_sL, gN_sQ, gN_sJ, Nat.reduceLT, Nat.reduceEqDiff, reduceIte, Nat.reduceAdd, Nat.reduceLeDiff, Nat.reduceSub, Bool.false_eq_true, if_true, if_false, ite_true, ite_false, List.length_cons, List.length_nil, Nat.zero_add, Nat.add_zero, and_true, true_and, true_or, or_true, and_self, Nat.le_refl, Nat.lt_irrefl]; exact q4.symm
      have w36 : gL σ6 1340 0 = v := by rw [f6.gl]; simp only [gI_sI, gL_sL, gQ_sQ, gI_sJ, gI_sL, gI_sQ, gL_sI, gL_sQ, gL_sJ, gQ_sI, gQ_sL, gQ_sJ, gN_sI, gN_sL, gN_sQ, gN_sJ, Nat.reduceLT, Nat.reduceEqDiff, reduceIte, Nat.reduceAdd, Nat.reduceLeDiff, Nat.reduceSub, Bool.false_eq_true, if_true, if_false, ite_true, ite_false, List.length_cons, List.length_nil, Nat.zero_add, Nat.add_zero, and_true, true_and, true_or, or_true, and_self, Nat.le_refl, Nat.lt_irrefl]; exact w34
      have a76 : gI σ6 1341 0 = 1 := by rw [f6.gi rfl]; simp only [gI_sI, gL_sL, gQ_sQ, gI_sJ, gI_sL, gI_sQ, gL_sI, gL_sQ, gL_sJ, gQ_sI, gQ_sL, gQ_sJ, gN_sI, gN_sL, gN_sQ, gN_sJ, Nat.reduceLT, Nat.reduceEqDiff, reduceIte, Nat.reduceAdd, Nat.reduceLeDiff, Nat.reduceSub, Bool.false_eq_true, if_true, if_false, ite_true, ite_false, List.length_cons, List.length_nil, Nat.zero_add, Nat.add_zero, and_true, true_and, true_or, or_true, and_self, Nat.le_refl, Nat.lt_irrefl]; exact a74
      by_cases q6 : (skp L s4).2.1 = 0
      case neg =>
        have ed6 : rd6 L s4 rk n t.1 v = oF (skp L s4) rk n t.1 v := by unfold rd6; rw [if_neg q6]
        rw [ed6] at hQ
        have hf6 : ¬ gI σ6 1332 0 = 0 := by rw [r6.2.1]; exact q6
        rw [h_readM 6]
        simp only [am_run_s, bt, lf, am_in, am_ar, am_fit, am_ld, am_ct, Nat.reduceLT, Nat.reduceEqDiff, reduceIte, Nat.reduceAdd, Nat.reduceLeDiff, Nat.reduceSub, Bool.false_eq_true, if_true, if_false, ite_true, ite_false, List.length_cons, List.length_nil, Nat.zero_add, Nat.add_zero, and_true, true_and, true_or, or_true, and_self, Nat.le_refl, Nat.lt_irrefl, gI_sI, gL_sL, gQ_sQ, gI_sJ, gI_sL, gI_sQ, gL_sI, gL_sQ, gL_sJ, gQ_sI, gQ_sL, gQ_sJ, gN_sI, gN_sL, gN_sQ, gN_sJ, E_b2_0, E_cS_a, E_cS_b, E_cV_a, E_cV_b, E_c_0, E_getI_0, E_i2l_0, E_je_0, E_jz_0, E_kk, E_ldI_a, E_ldI_b, E_ldR_a, E_ldR_b, E_putI_0, E_putL_0, E_putZ_0, E_rI_0, E_stI_0, am_cc, am_nl, am_ok, am_pop, am_rt, am_set, cC_12, kX12_read, kX12_read_0, kX12_read_1, kX12_read_2, hf6]
        rw [r6.2.1]
        exact hQ σ6 g6 ⟨r6.o _ _ _ _, k26, k36, a56, w36, a76⟩
      have ed6 : rd6 L s4 rk n t.1 v = (((tailP L 10 0 (skp L s4).1).1, (tailP L 10 0 (skp L s4).1).2, (skp L s4).2.2.2.2), rk, n, t.1, v) := by unfold rd6; rw [if_pos q6]
      rw [ed6] at hQ
      have v6 := (RV_skp v4 ha q6).1
      have hf6 : gI σ6 1332 0 = 0 := by rw [r6.2.1]; exact q6
      rw [h_readM 4]
      simp only [am_run_s, bt, lf, am_in, am_ar, am_fit, am_ld, am_ct, Nat.reduceLT, Nat.reduceEqDiff, reduceIte, Nat.reduceAdd, Nat.reduceLeDiff, Nat.reduceSub, Bool.false_eq_true, if_true, if_false, ite_true, ite_false, List.length_cons, List.length_nil, Nat.zero_add, Nat.add_zero, and_true, true_and, true_or, or_true, and_self, Nat.le_refl, Nat.lt_irrefl, gI_sI, gL_sL, gQ_sQ, gI_sJ, gI_sL, gI_sQ, gL_sI, gL_sQ, gL_sJ, gQ_sI, gQ_sL, gQ_sJ, gN_sI, gN_sL, gN_sQ, gN_sJ, E_b2_0, E_cS_a, E_cS_b, E_cV_a, E_cV_b, E_c_0, E_getI_0, E_i2l_0, E_je_0, E_jz_0, E_kk, E_ldI_a, E_ldI_b, E_ldR_a, E_ldR_b, E_putI_0, E_putL_0, E_putZ_0, E_rI_0, E_stI_0, am_cc, am_nl, am_ok, am_pop, am_rt, am_set, cC_12, kX12_read, kX12_read_0, kX12_read_1, kX12_read_2, am_run_z, hf6]
      rw [eX12_readsTail 4]
      simp only [am_run_s, bt, lf, am_in, am_ar, am_fit, am_ld, am_ct, Nat.reduceLT, Nat.reduceEqDiff, reduceIte, Nat.reduceAdd, Nat.reduceLeDiff, Nat.reduceSub, Bool.false_eq_true, if_true, if_false, ite_true, ite_false, List.length_cons, List.length_nil, Nat.zero_add, Nat.add_zero, and_true, true_and, true_or, or_true, and_self, Nat.le_refl, Nat.lt_irrefl, gI_sI, gL_sL, gQ_sQ, gI_sJ, gI_sL, gI_sQ, gL_sI, gL_sQ, gL_sJ, gQ_sI, gQ_sL, gQ_sJ, gN_sI, gN_sL, gN_sQ, gN_sJ, E_b2_0, E_cV_a, E_cV_b, E_c_0, E_dup_0, E_dup_1, E_getI_0, E_getR_0, E_iald_0, E_inc_a, E_inc_b, E_je_0, E_jl_0, E_jmp_0, E_jz_0, E_kk, E_ldI_a, E_ldI_b, E_ldR_a, E_ldR_b, E_putI_0, E_rV_0, E_stI_0, aL_53, am_cc, am_nl, am_ok, am_pop, am_rt, am_set, cC_12, cC_53, rR_1329, kX12_readsTail]
      refine l_readsTail hL 10 0 (skp L s4).1 σ6 (by omega) v6.1 (hT5.fx f6 rfl rfl) r6.1 hf6 (fun σ7 f7 t1 t2 t3 => ?_)
      simp only [am_run_s, bt, lf, am_in, am_ar, am_fit, am_ld, am_ct, Nat.reduceLT, Nat.reduceEqDiff, reduceIte, Nat.reduceAdd, Nat.reduceLeDiff, Nat.reduceSub, Bool.false_eq_true, if_true, if_false, ite_true, ite_false, List.length_cons, List.length_nil, Nat.zero_add, Nat.add_zero, and_true, true_and, true_or, or_true, and_self, Nat.le_refl, Nat.lt_irrefl, gI_sI, gL_sL, gQ_sQ, gI_sJ, gI_sL, gI_sQ, gL_sI, gL_sQ, gL_sJ, gQ_sI, gQ_sL, gQ_sJ, gN_sI, gN_sL, gN_sQ, gN_sJ, E_b2_0, E_cS_a, E_cS_b, E_cV_a, E_cV_b, E_c_0, E_getI_0, E_i2l_0, E_je_0, E_jz_0, E_kk, E_ldI_a, E_ldI_b, E_ldR_a, E_ldR_b, E_putI_0, E_putL_0, E_putZ_0, E_rI_0, E_stI_0, am_cc, am_nl, am_ok, am_pop, am_rt, am_set, cC_12, kX12_read, kX12_read_0, kX12_read_1, kX12_read_2, am_run_z]
      rw [h_readM 3]
      simp only [am_run_s, bt, lf, am_in, am_ar, am_fit, am_ld, am_ct, Nat.reduceLT, Nat.reduceEqDiff, reduceIte, Nat.reduceAdd, Nat.reduceLeDiff, Nat.reduceSub, Bool.false_eq_true, if_true, if_false, ite_true, ite_false, List.length_cons, List.length_nil, Nat.zero_add, Nat.add_zero, and_true, true_and, true_or, or_true, and_self, Nat.le_refl, Nat.lt_irrefl, gI_sI, gL_sL, gQ_sQ, gI_sJ, gI_sL, gI_sQ, gL_sI, gL_sQ, gL_sJ, gQ_sI, gQ_sL, gQ_sJ, gN_sI, gN_sL, gN_sQ, gN_sJ, E_b2_0, E_cS_a, E_cS_b, E_cV_a, E_cV_b, E_c_0, E_getI_0, E_i2l_0, E_je_0, E_jz_0, E_kk, E_ldI_a, E_ldI_b, E_ldR_a, E_ldR_b, E_putI_0, E_putL_0, E_putZ_0, E_rI_0, E_stI_0, am_cc, am_nl, am_ok, am_pop, am_rt, am_set, cC_12, kX12_read, kX12_read_0, kX12_read_1, kX12_read_2, t2]
      refine hQ σ7 (g6.tr (f7.f2 PMR_D)) ⟨⟨t1, t2, by rw [t3, r6.2.2.2.2]⟩, ?_, ?_, ?_, ?_, ?_⟩
      · rw [f7.gi rfl]; exact k26
      · rw [f7.gi rfl]; exact k36
      · rw [f7.gi rfl]; exact a56
      · rw [f7.gl]; exact w36
      · rw [f7.gi rfl]; exact a76
theorem api_read (x : Int32) : apiI 106 172 [.inl x] := by
  intro k σ hk h
  obtain ⟨l, hl, ha, tx, tm⟩ := v_tap.to h.2.2.2.1
  rw [eX11_read 18]
  rcases ix x (n := l.length + 1) (by omega) with ⟨j, hj, rfl⟩ | hx
  · have h1 := nI_f (j := j) (by omega)
    have h2 : ¬ nI l.length < nI j := nI_nlt (by omega) (by omega)
    simp only [am_run_s, bt, lf, am_in, am_ar, am_fit, am_ld, am_ct, Nat.reduceLT, Nat.reduceEqDiff, reduceIte, Nat.reduceAdd, Nat.reduceLeDiff, Nat.reduceSub, Bool.false_eq_true, if_true, if_false, ite_true, ite_false, List.length_cons, List.length_nil, Nat.zero_add, Nat.add_zero, and_true, true_and, true_or, or_true, and_self, Nat.le_refl, Nat.lt_irrefl, gI_sI, gL_sL, gQ_sQ, gI_sJ, gI_sL, gI_sQ, gL_sI, gL_sQ, gL_sJ, gQ_sI, gQ_sL, gQ_sJ, gN_sI, gN_sL, gN_sQ, gN_sJ, E_cS_a, E_cS_b, E_cV_a, E_cV_b, E_c_0, E_getI_0, E_getR_0, E_jz_0, E_kk, E_ldI_a, E_ldI_b, E_ldR_a, E_ldR_b, E_rI_0, am_cc, am_pop, am_rt, cC_11, cC_5, cC_8, rR_1202, rR_1203, kX11_read, ↓s_isWithin, bI_z, tx.1, h1, h2, not_true_eq_false, not_false_eq_true]
    refine c_readFrom hl ha tx h.2.2.2.2.2.2.2.2 (by omega) (fun σ1 f1 o1 => ?_)
    simp only [am_run_s, bt, lf, am_in, am_ar, am_fit, am_ld, am_ct, Nat.reduceLT, Nat.reduceEqDiff, reduceIte, Nat.reduceAdd, Nat.reduceLeDiff, Nat.reduceSub, Bool.false_eq_true, if_true, if_false, ite_true, ite_false, List.length_cons, List.length_nil, Nat.zero_add, Nat.add_zero, and_true, true_and, true_or, or_true, and_self, Nat.le_refl, Nat.lt_irrefl, gI_sI, gL_sL, gQ_sQ, gI_sJ, gI_sL, gI_sQ, gL_sI, gL_sQ, gL_sJ, gQ_sI, gQ_sL, gQ_sJ, gN_sI, gN_sL, gN_sQ, gN_sJ, E_cS_a, E_cS_b, E_cV_a, E_cV_b, E_c_0, E_getI_0, E_getR_0, E_jz_0, E_kk, E_ldI_a, E_ldI_b, E_ldR_a, E_ldR_b, E_rI_0, am_cc, am_pop, am_rt, cC_11, cC_5, cC_8, rR_1202, rR_1203, kX11_read, o1.1.2.1]
    have tm1 : TPM σ1 l := tm.f2 f1 rfl rfl
    refine c_readM hl ha tm1 (by omega) (fun σ2 f2 o2 => ?_)
    refine ⟨⟨_, rfl, rfl⟩, ?_⟩
    have hv : v_rea σ2 σ2 := by
      refine ⟨?_, ?_, ?_, fun _ => ⟨?_, ?_, ?_, ?_, ?_⟩⟩
      · rw [f2.gi rfl, o1.2.2.2.2.2, o2.2.2.2.2.2]
      · rw [o2.2.2.2.2.2]; exact Or.inr rfl
      · rw [f2.gl rfl, o1.2.2.2.2.1, o2.2.2.2.2.1]
      · rw [f2.gi rfl, o1.1.1, o2.1.1]
      · rw [f2.gi rfl, o1.2.1, o2.2.1]
      · rw [f2.gi rfl, o1.2.2.1, o2.2.2.1]
      · rw [f2.gi rfl, o1.1.2.2, o2.1.2.2]
      · rw [f2.gi rfl, o1.2.2.2.1, o2.2.2.2.1]
    obtain ⟨J1, K1, rfl⟩ := f1.el
    obtain ⟨J2, K2, rfl⟩ := f2.el
    exact ⟨h.1, h.2.1, h.2.2.1.up, h.2.2.2.1, hv, h.2.2.2.2.2⟩
  · have hx2 : ¬ (¬ x < 0 ∧ ¬ nI l.length < x) := by
      intro z
      apply hx
      refine ⟨z.1, ?_⟩
      obtain ⟨j, j1, rfl⟩ := nI_of z.1
      have := z.2
      rw [nI_ltI (by omega) (by omega)] at this
      exact nI_lt (by omega) (by omega)
    simp only [am_run_s, bt, lf, am_in, am_ar, am_fit, am_ld, am_ct, Nat.reduceLT, Nat.reduceEqDiff, reduceIte, Nat.reduceAdd, Nat.reduceLeDiff, Nat.reduceSub, Bool.false_eq_true, if_true, if_false, ite_true, ite_false, List.length_cons, List.length_nil, Nat.zero_add, Nat.add_zero, and_true, true_and, true_or, or_true, and_self, Nat.le_refl, Nat.lt_irrefl, gI_sI, gL_sL, gQ_sQ, gI_sJ, gI_sL, gI_sQ, gL_sI, gL_sQ, gL_sJ, gQ_sI, gQ_sL, gQ_sJ, gN_sI, gN_sL, gN_sQ, gN_sJ, E_cS_a, E_cS_b, E_cV_a, E_cV_b, E_c_0, E_getI_0, E_getR_0, E_jz_0, E_kk, E_ldI_a, E_ldI_b, E_ldR_a, E_ldR_b, E_rI_0, am_cc, am_pop, am_rt, cC_11, cC_5, cC_8, rR_1202, rR_1203, kX11_read, ↓s_isWithin, bI_z, tx.1, hx2, not_false_eq_true, ↓s_refuse3]
    rw [eX12_read 14]
    simp only [am_run_s, bt, lf, am_in, am_ar, am_fit, am_ld, am_ct, Nat.reduceLT, Nat.reduceEqDiff, reduceIte, Nat.reduceAdd, Nat.reduceLeDiff, Nat.reduceSub, Bool.false_eq_true, if_true, if_false, ite_true, ite_false, List.length_cons, List.length_nil, Nat.zero_add, Nat.add_zero, and_true, true_and, true_or, or_true, and_self, Nat.le_refl, Nat.lt_irrefl, gI_sI, gL_sL, gQ_sQ, gI_sJ, gI_sL, gI_sQ, gL_sI, gL_sQ, gL_sJ, gQ_sI, gQ_sL, gQ_sJ, gN_sI, gN_sL, gN_sQ, gN_sJ, E_b2_0, E_cS_a, E_cS_b, E_cV_a, E_cV_b, E_c_0, E_getI_0, E_i2l_0, E_je_0, E_jz_0, E_kk, E_ldI_a, E_ldI_b, E_ldR_a, E_ldR_b, E_putI_0, E_putL_0, E_putZ_0, E_rI_0, E_stI_0, am_cc, am_nl, am_ok, am_pop, am_rt, am_set, cC_12, kX12_read, kX12_read_0, kX12_read_1, kX12_read_2, ↓s_isIn0, bI_z, tm.1, hx2, not_false_eq_true, ↓s_no3]
    exact ⟨⟨_, rfl, rfl⟩, h.refuse⟩
